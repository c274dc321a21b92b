/-! the law's loop -/
def cV (q : Nat) (H : mi_H) : Prop := bS H.2.2.1 ∧ bC H.2.1 H.2.2.2.2 ∧ wp q H.2.2.1 H.1 H.2.1 H.2.2.2.1 H.2.2.1 ∧ wd H.1 H.2.2.2.1
def tie (s : Nat → Int) : Prop := s 100 = s 3001 ∧ s 101 = s 3002 ∧ s 102 = s 3003 ∧ s 103 = s 3004
def lawQ : mi_Rs → mi_H → Prop := fun R H => R = .inl (some (.inl 1)) ∧ ∃ g, cW 520 g H
set_option maxRecDepth 100000 in
set_option maxHeartbeats 8000000 in
theorem law_L {Zi : Nat → Option (Nat × (Nat → Int))} {L : Nat} {xs : Nat → Int} (hz : zk Zi) (hs : Zi 4 = some (L, xs)) (hxs : ∀ i, -2147483648 ≤ xs i ∧ xs i ≤ 2147483647) (hL : L ≤ 4608) : ∀ (m q : Nat) (i : Int) (o5 o6 : Option mi_V) (H : mi_H), cV q H → tie H.2.2.1 → tiS H.2.2.1 H.2.2.2.1 H.2.2.2.2 → tiQ H.2.2.1 H.2.2.2.1 H.2.2.2.2 → 0 ≤ i → 9 * (q : Int) ≤ i → i ≤ 4617 → (4700 - i).toNat < m → tt Zi 12 0 (23, [some (.inr (.inl 1000004)), some (.inr (.inl 0)), some (.inr (.inl 30)), some (.inr (.inl 47)), some (.inl i), o5, o6], [], H) lawQ := by
  intro m
  induction m with
  | zero => intro q i o5 o6 H _ _ _ _ _ _ _ h; exact absurd h (by omega)
  | succ m ih =>
    intro q i o5 o6 H hH ht tS hQ hi0 hq hi1 hm
    obtain ⟨n, D, s, p, c⟩ := H
    have hS : bS s := hH.1
    have hC : bC D c := hH.2.1
    have hW : wp q s n D p s := hH.2.2.1
    have hD : wd n p := hH.2.2.2
    have tS : tiS s p c := tS
    have hQ : tiQ s p c := hQ
    obtain ⟨E, hcE, hrE⟩ := tS
    have ht : tie s := ht
    unfold tie at ht
    have hd : 12 ≤ 12 := Nat.le_refl 12
    refine tt_k 2 (S' := (26, [some (.inr (.inl 1000004)), some (.inr (.inl 0)), some (.inr (.inl 30)), some (.inr (.inl 47)), some (.inl i), o5, o6], [.inr (.inl 1000004), .inl i], n, D, s, p, c)) rfl ?_
    refine tt_lno (j := 4) rfl hs ?_
    show tt Zi 12 0 (27, [some (.inr (.inl 1000004)), some (.inr (.inl 0)), some (.inr (.inl 30)), some (.inr (.inl 47)), some (.inl i), o5, o6], [.inl (L : Int), .inl i], n, D, s, p, c) _
    refine tt_k 2 (S' := (30, [some (.inr (.inl 1000004)), some (.inr (.inl 0)), some (.inr (.inl 30)), some (.inr (.inl 47)), some (.inl i), o5, o6], [.inl ((L : Int) - 9), .inl i], n, D, s, p, c)) rfl ?_
    refine tb_gt (x := i) (y := ((L : Int) - 9)) rfl rfl (by omega) (fun h1 => ?_) (fun h1 => ?_)
    · show tt Zi 12 0 (827, [some (.inr (.inl 1000004)), some (.inr (.inl 0)), some (.inr (.inl 30)), some (.inr (.inl 47)), some (.inl i), o5, o6], [], n, D, s, p, c) _
      refine tt_k 1 (S' := (828, [some (.inr (.inl 1000004)), some (.inr (.inl 0)), some (.inr (.inl 30)), some (.inr (.inl 47)), some (.inl i), o5, o6], [.inl 1], n, D, s, p, c)) rfl ?_
      exact tt_rtb rfl rfl (by omega) ⟨rfl, _, cW_mono (q := q) ⟨hS, hC, hW⟩ (by omega)⟩
    · show tt Zi 12 0 (33, [some (.inr (.inl 1000004)), some (.inr (.inl 0)), some (.inr (.inl 30)), some (.inr (.inl 47)), some (.inl i), o5, o6], [], n, D, s, p, c) _
      refine tt_k 2 (S' := (36, [some (.inr (.inl 1000004)), some (.inr (.inl 0)), some (.inr (.inl 30)), some (.inr (.inl 47)), some (.inl i), o5, o6], [.inl i, .inr (.inl 1000004)], n, D, s, p, c)) rfl ?_
      refine tt_stat (j := 4) (i := i) rfl hs (by omega) ?_
      show tt Zi 12 0 (37, [some (.inr (.inl 1000004)), some (.inr (.inl 0)), some (.inr (.inl 30)), some (.inr (.inl 47)), some (.inl i), o5, o6], [.inl (xs (i).toNat)], n, D, s, p, c) _
      have b2 := hxs (i).toNat
      refine tt_k 2 (S' := (40, [some (.inr (.inl 1000004)), some (.inr (.inl 0)), some (.inr (.inl 30)), some (.inr (.inl 47)), some (.inl i), o5, o6], [.inl ((mi_and (xs (i).toNat) 15))], n, D, s, p, c)) rfl ?_
      have e3 := mi_and15 (xs (i).toNat)
      by_cases h4 : (mi_and (xs (i).toNat) 15) = 0
      · have h5 := h4
        refine tt_tsw (x := (mi_and (xs (i).toNat) 15)) (off := 80) rfl (by omega) (by omega) (by rw [h4]; rfl) rfl ?_
        show tt Zi 12 0 (120, [some (.inr (.inl 1000004)), some (.inr (.inl 0)), some (.inr (.inl 30)), some (.inr (.inl 47)), some (.inl i), o5, o6], [], n, D, s, p, c) _
        refine tt_k 5 (S' := (126, [some (.inr (.inl 1000004)), some (.inr (.inl 0)), some (.inr (.inl 30)), some (.inr (.inl 47)), some (.inl i), o5, o6], [.inl (i + 1), .inr (.inl 1000004), .inr (.inl 0)], n, D, s, p, c)) rfl ?_
        refine tt_stat (j := 4) (i := (i + 1)) rfl hs (by omega) ?_
        show tt Zi 12 0 (127, [some (.inr (.inl 1000004)), some (.inr (.inl 0)), some (.inr (.inl 30)), some (.inr (.inl 47)), some (.inl i), o5, o6], [.inl ((xs ((i + 1)).toNat)), .inr (.inl 0)], n, D, s, p, c) _
        have b6 := hxs ((i + 1)).toNat
        refine tt_k 4 (S' := (132, [some (.inr (.inl 1000004)), some (.inr (.inl 0)), some (.inr (.inl 30)), some (.inr (.inl 47)), some (.inl i), o5, o6], [.inl (i + 2), .inr (.inl 1000004), .inl ((xs ((i + 1)).toNat)), .inr (.inl 0)], n, D, s, p, c)) rfl ?_
        refine tt_stat (j := 4) (i := (i + 2)) rfl hs (by omega) ?_
        show tt Zi 12 0 (133, [some (.inr (.inl 1000004)), some (.inr (.inl 0)), some (.inr (.inl 30)), some (.inr (.inl 47)), some (.inl i), o5, o6], [.inl ((xs ((i + 2)).toNat)), .inl ((xs ((i + 1)).toNat)), .inr (.inl 0)], n, D, s, p, c) _
        have b7 := hxs ((i + 2)).toNat
        refine tt_k 4 (S' := (138, [some (.inr (.inl 1000004)), some (.inr (.inl 0)), some (.inr (.inl 30)), some (.inr (.inl 47)), some (.inl i), o5, o6], [.inl (i + 3), .inr (.inl 1000004), .inl ((xs ((i + 2)).toNat)), .inl ((xs ((i + 1)).toNat)), .inr (.inl 0)], n, D, s, p, c)) rfl ?_
        refine tt_stat (j := 4) (i := (i + 3)) rfl hs (by omega) ?_
        show tt Zi 12 0 (139, [some (.inr (.inl 1000004)), some (.inr (.inl 0)), some (.inr (.inl 30)), some (.inr (.inl 47)), some (.inl i), o5, o6], [.inl ((xs ((i + 3)).toNat)), .inl ((xs ((i + 2)).toNat)), .inl ((xs ((i + 1)).toNat)), .inr (.inl 0)], n, D, s, p, c) _
        have b8 := hxs ((i + 3)).toNat
        refine tt_k 4 (S' := (144, [some (.inr (.inl 1000004)), some (.inr (.inl 0)), some (.inr (.inl 30)), some (.inr (.inl 47)), some (.inl i), o5, o6], [.inl (i + 4), .inr (.inl 1000004), .inl ((xs ((i + 3)).toNat)), .inl ((xs ((i + 2)).toNat)), .inl ((xs ((i + 1)).toNat)), .inr (.inl 0)], n, D, s, p, c)) rfl ?_
        refine tt_stat (j := 4) (i := (i + 4)) rfl hs (by omega) ?_
        show tt Zi 12 0 (145, [some (.inr (.inl 1000004)), some (.inr (.inl 0)), some (.inr (.inl 30)), some (.inr (.inl 47)), some (.inl i), o5, o6], [.inl ((xs ((i + 4)).toNat)), .inl ((xs ((i + 3)).toNat)), .inl ((xs ((i + 2)).toNat)), .inl ((xs ((i + 1)).toNat)), .inr (.inl 0)], n, D, s, p, c) _
        have b9 := hxs ((i + 4)).toNat
        refine tt_cl (by omega) rfl (h_canvas (Zi := Zi) (q := q) (n := n) (D := D) (s := s) (p := p) (c := c) (by omega) hz (by omega) hD hS hC (wp_rg hW) ((xs ((i + 1)).toNat)) ((xs ((i + 2)).toNat)) ((xs ((i + 3)).toNat)) ((xs ((i + 4)).toNat)) (by omega) (by omega) (by omega) (by omega)) ?_
        rintro _ ⟨n10, D11, s12, p13, c14⟩ ⟨r16, rfl, b17, hY15, k18, k19, k20, k21⟩
        have hS12 : bS s12 := hY15.1
        have hC14 : bC D11 c14 := hY15.2.1
        have hW13 : wp _ _ n10 D11 p13 s12 := hY15.2.2.1
        have FKc : fk p c n10 p13 c14 [3, 104] := hY15.2.2.2.1
        have FFc : fr s s12 [100, 101, 102, 103, 800, 801, 802, 803, 804, 805, 806, 807, 808, 809, 902, 1705, 1706, 2001, 2002, 2003, 2004, 2005, 2006, 2106, 2107, 2108, 2109, 2110, 2111, 2112, 2113, 2114, 2115, 2116, 2500, 2501, 2502, 2503, 2700, 2701, 2702, 2703] := hY15.2.2.2.2
        replace k18 : (r16 = 0 ∧ (1 ≤ ((xs ((i + 1)).toNat)) ∧ ((xs ((i + 1)).toNat)) ≤ 64) ∧ (1 ≤ ((xs ((i + 2)).toNat)) ∧ ((xs ((i + 2)).toNat)) ≤ 64) ∧ (((xs ((i + 3)).toNat)) = 1 ∨ ((xs ((i + 3)).toNat)) = 3) ∧ (2 ≤ ((xs ((i + 4)).toNat)) ∧ ((xs ((i + 4)).toNat)) ≤ 16)) ∨ (r16 = 1 ∧ ¬ ((1 ≤ ((xs ((i + 1)).toNat)) ∧ ((xs ((i + 1)).toNat)) ≤ 64) ∧ (1 ≤ ((xs ((i + 2)).toNat)) ∧ ((xs ((i + 2)).toNat)) ≤ 64) ∧ (((xs ((i + 3)).toNat)) = 1 ∨ ((xs ((i + 3)).toNat)) = 3) ∧ (2 ≤ ((xs ((i + 4)).toNat)) ∧ ((xs ((i + 4)).toNat)) ≤ 16))) := k18
        replace k21 : r16 ≠ 0 → fk p c n10 p13 c14 [] := k21
        show tt Zi 12 0 (148, [some (.inr (.inl 1000004)), some (.inr (.inl 0)), some (.inr (.inl 30)), some (.inr (.inl 47)), some (.inl i), o5, o6], [.inl r16], n10, D11, s12, p13, c14) _
        have tc100 : s12 100 = if r16 = 0 then (xs ((i + 1)).toNat) else (s 100) := gz_if (hW13.gz 100 rfl)
        have tc101 : s12 101 = if r16 = 0 then (xs ((i + 2)).toNat) else (s 101) := gz_if (hW13.gz 101 rfl)
        have tc102 : s12 102 = if r16 = 0 then (xs ((i + 3)).toNat) else (s 102) := gz_if (hW13.gz 102 rfl)
        have tc103 : s12 103 = if r16 = 0 then (xs ((i + 4)).toNat) else (s 103) := gz_if (hW13.gz 103 rfl)
        have tc3001 : s12 3001 = (s 3001) := gz_is (hW13.gz 3001 rfl) rfl
        have tc3002 : s12 3002 = (s 3002) := gz_is (hW13.gz 3002 rfl) rfl
        have tc3003 : s12 3003 = (s 3003) := gz_is (hW13.gz 3003 rfl) rfl
        have tc3004 : s12 3004 = (s 3004) := gz_is (hW13.gz 3004 rfl) rfl
        refine tt_k 6 (S' := (156, [some (.inr (.inl 1000004)), some (.inr (.inl 0)), some (.inr (.inl 30)), some (.inr (.inl 47)), some (.inl i), some (.inl r16), o6], [.inl (i + 1), .inr (.inl 1000004), .inr (.inl 30)], n10, D11, s12, p13, c14)) rfl ?_
        refine tt_stat (j := 4) (i := (i + 1)) rfl hs (by omega) ?_
        show tt Zi 12 0 (157, [some (.inr (.inl 1000004)), some (.inr (.inl 0)), some (.inr (.inl 30)), some (.inr (.inl 47)), some (.inl i), some (.inl r16), o6], [.inl ((xs ((i + 1)).toNat)), .inr (.inl 30)], n10, D11, s12, p13, c14) _
        refine tt_k 4 (S' := (162, [some (.inr (.inl 1000004)), some (.inr (.inl 0)), some (.inr (.inl 30)), some (.inr (.inl 47)), some (.inl i), some (.inl r16), o6], [.inl (i + 2), .inr (.inl 1000004), .inl ((xs ((i + 1)).toNat)), .inr (.inl 30)], n10, D11, s12, p13, c14)) rfl ?_
        refine tt_stat (j := 4) (i := (i + 2)) rfl hs (by omega) ?_
        show tt Zi 12 0 (163, [some (.inr (.inl 1000004)), some (.inr (.inl 0)), some (.inr (.inl 30)), some (.inr (.inl 47)), some (.inl i), some (.inl r16), o6], [.inl ((xs ((i + 2)).toNat)), .inl ((xs ((i + 1)).toNat)), .inr (.inl 30)], n10, D11, s12, p13, c14) _
        refine tt_k 4 (S' := (168, [some (.inr (.inl 1000004)), some (.inr (.inl 0)), some (.inr (.inl 30)), some (.inr (.inl 47)), some (.inl i), some (.inl r16), o6], [.inl (i + 3), .inr (.inl 1000004), .inl ((xs ((i + 2)).toNat)), .inl ((xs ((i + 1)).toNat)), .inr (.inl 30)], n10, D11, s12, p13, c14)) rfl ?_
        refine tt_stat (j := 4) (i := (i + 3)) rfl hs (by omega) ?_
        show tt Zi 12 0 (169, [some (.inr (.inl 1000004)), some (.inr (.inl 0)), some (.inr (.inl 30)), some (.inr (.inl 47)), some (.inl i), some (.inl r16), o6], [.inl ((xs ((i + 3)).toNat)), .inl ((xs ((i + 2)).toNat)), .inl ((xs ((i + 1)).toNat)), .inr (.inl 30)], n10, D11, s12, p13, c14) _
        refine tt_k 4 (S' := (174, [some (.inr (.inl 1000004)), some (.inr (.inl 0)), some (.inr (.inl 30)), some (.inr (.inl 47)), some (.inl i), some (.inl r16), o6], [.inl (i + 4), .inr (.inl 1000004), .inl ((xs ((i + 3)).toNat)), .inl ((xs ((i + 2)).toNat)), .inl ((xs ((i + 1)).toNat)), .inr (.inl 30)], n10, D11, s12, p13, c14)) rfl ?_
        refine tt_stat (j := 4) (i := (i + 4)) rfl hs (by omega) ?_
        show tt Zi 12 0 (175, [some (.inr (.inl 1000004)), some (.inr (.inl 0)), some (.inr (.inl 30)), some (.inr (.inl 47)), some (.inl i), some (.inl r16), o6], [.inl ((xs ((i + 4)).toNat)), .inl ((xs ((i + 3)).toNat)), .inl ((xs ((i + 2)).toNat)), .inl ((xs ((i + 1)).toNat)), .inr (.inl 30)], n10, D11, s12, p13, c14) _
        refine tt_cl (by omega) rfl (k_canvas2 (Zi := Zi) (D := D11) (s := s12) (p := p13) (c := c14) (by omega) hS12 hC14 ((xs ((i + 1)).toNat)) ((xs ((i + 2)).toNat)) ((xs ((i + 3)).toNat)) ((xs ((i + 4)).toNat)) (by omega) (by omega) (by omega) (by omega)) ?_
        rintro _ _ ⟨s22, c23, rfl, rfl, hS22, hC23, f24, g25, k26, k27, k28, k29, k30, k31, k32⟩
        have hW33 := wp_rf f24 (by decide) hW13
        show tt Zi 12 0 (178, [some (.inr (.inl 1000004)), some (.inr (.inl 0)), some (.inr (.inl 30)), some (.inr (.inl 47)), some (.inl i), some (.inl r16), o6], [], n10, D11, s22, p13, c23) _
        have te100 : s22 100 = (s12 100) := f24 100 (by decide)
        have te101 : s22 101 = (s12 101) := f24 101 (by decide)
        have te102 : s22 102 = (s12 102) := f24 102 (by decide)
        have te103 : s22 103 = (s12 103) := f24 103 (by decide)
        have ht2 : tie s22 := by
          by_cases hc : (1 ≤ (xs ((i + 1)).toNat) ∧ (xs ((i + 1)).toNat) ≤ 64) ∧ (1 ≤ (xs ((i + 2)).toNat) ∧ (xs ((i + 2)).toNat) ≤ 64) ∧ ((xs ((i + 3)).toNat) = 1 ∨ (xs ((i + 3)).toNat) = 3) ∧ (2 ≤ (xs ((i + 4)).toNat) ∧ (xs ((i + 4)).toNat) ≤ 16)
          · rcases k18 with ⟨er, _⟩ | ⟨er, hn⟩
            · rw [if_pos hc] at k27 k28 k29 k30
              rw [if_pos er] at tc100 tc101 tc102 tc103
              exact ⟨te100.trans (tc100.trans k27.symm), te101.trans (tc101.trans k28.symm), te102.trans (tc102.trans k29.symm), te103.trans (tc103.trans k30.symm)⟩
            · exact absurd hc hn
          · rcases k18 with ⟨er, hn⟩ | ⟨er, _⟩
            · exact absurd hn hc
            · have er2 : ¬ r16 = 0 := by rw [er]; decide
              rw [if_neg hc] at k27 k28 k29 k30
              rw [if_neg er2] at tc100 tc101 tc102 tc103
              exact ⟨te100.trans (tc100.trans (ht.1.trans (tc3001.symm.trans k27.symm))), te101.trans (tc101.trans (ht.2.1.trans (tc3002.symm.trans k28.symm))), te102.trans (tc102.trans (ht.2.2.1.trans (tc3003.symm.trans k29.symm))), te103.trans (tc103.trans (ht.2.2.2.trans (tc3004.symm.trans k30.symm)))⟩
        have tS2 : tiS s22 p13 c23 := tiS_cn hcE hrE FKc k18 k19 k21 g25 k31 (te100.trans tc100) (te101.trans tc101) (te102.trans tc102)
        have FKr := fk_rc FKc.1 g25 (by decide)
        have q1 : tqC c23 := tqC_cn hQ.1 FKc k18 k20 k21 g25 k32
        have q2 : tqW s22 := tqW_f (tqW_f hQ.2.1 FFc (by decide)) f24 (by decide)
        have q3 : tqP s22 p13 c23 := tqP_f hQ.2.2.1 FKc FKr (by decide) FFc (by decide) f24 (by decide)
        have q4 : tqT s22 := tqT_f (tqT_f hQ.2.2.2.1 FFc (by decide)) f24 (by decide)
        have q5 : tqB s22 p13 c23 := tqB_f hQ.2.2.2.2 FKc FKr (by decide) FFc (by decide) f24 (by decide)
        have tQ2 : tiQ s22 p13 c23 := ⟨q1, q2, q3, q4, q5⟩
        clear k27 k28 k29 k30 k31 k32 tc100 tc101 tc102 tc103 tc3001 tc3002 tc3003 tc3004 te100 te101 te102 te103
        refine tt_k 3 (S' := (23, [some (.inr (.inl 1000004)), some (.inr (.inl 0)), some (.inr (.inl 30)), some (.inr (.inl 47)), some (.inl (i + 9)), some (.inl r16), o6], [], n10, D11, s22, p13, c23)) rfl ?_
        exact ih (q + 1) (i + 9) (some (.inl r16)) (o6) (n10, D11, s22, p13, c23) ⟨hS22, hC23, (wp_rg hW33), FKr.1⟩ ht2 tS2 tQ2 (by omega) (by omega) (by omega) (by omega)
      by_cases h34 : (mi_and (xs (i).toNat) 15) = 1
      · have h35 := h34
        refine tt_tsw (x := (mi_and (xs (i).toNat) 15)) (off := 141) rfl (by omega) (by omega) (by rw [h34]; rfl) rfl ?_
        show tt Zi 12 0 (181, [some (.inr (.inl 1000004)), some (.inr (.inl 0)), some (.inr (.inl 30)), some (.inr (.inl 47)), some (.inl i), o5, o6], [], n, D, s, p, c) _
        refine tt_k 5 (S' := (187, [some (.inr (.inl 1000004)), some (.inr (.inl 0)), some (.inr (.inl 30)), some (.inr (.inl 47)), some (.inl i), o5, o6], [.inl (i + 1), .inr (.inl 1000004), .inr (.inl 0)], n, D, s, p, c)) rfl ?_
        refine tt_stat (j := 4) (i := (i + 1)) rfl hs (by omega) ?_
        show tt Zi 12 0 (188, [some (.inr (.inl 1000004)), some (.inr (.inl 0)), some (.inr (.inl 30)), some (.inr (.inl 47)), some (.inl i), o5, o6], [.inl ((xs ((i + 1)).toNat)), .inr (.inl 0)], n, D, s, p, c) _
        have b36 := hxs ((i + 1)).toNat
        refine tt_k 4 (S' := (193, [some (.inr (.inl 1000004)), some (.inr (.inl 0)), some (.inr (.inl 30)), some (.inr (.inl 47)), some (.inl i), o5, o6], [.inl (i + 2), .inr (.inl 1000004), .inl ((xs ((i + 1)).toNat)), .inr (.inl 0)], n, D, s, p, c)) rfl ?_
        refine tt_stat (j := 4) (i := (i + 2)) rfl hs (by omega) ?_
        show tt Zi 12 0 (194, [some (.inr (.inl 1000004)), some (.inr (.inl 0)), some (.inr (.inl 30)), some (.inr (.inl 47)), some (.inl i), o5, o6], [.inl ((xs ((i + 2)).toNat)), .inl ((xs ((i + 1)).toNat)), .inr (.inl 0)], n, D, s, p, c) _
        have b37 := hxs ((i + 2)).toNat
        refine tt_k 4 (S' := (199, [some (.inr (.inl 1000004)), some (.inr (.inl 0)), some (.inr (.inl 30)), some (.inr (.inl 47)), some (.inl i), o5, o6], [.inl (i + 3), .inr (.inl 1000004), .inl ((xs ((i + 2)).toNat)), .inl ((xs ((i + 1)).toNat)), .inr (.inl 0)], n, D, s, p, c)) rfl ?_
        refine tt_stat (j := 4) (i := (i + 3)) rfl hs (by omega) ?_
        show tt Zi 12 0 (200, [some (.inr (.inl 1000004)), some (.inr (.inl 0)), some (.inr (.inl 30)), some (.inr (.inl 47)), some (.inl i), o5, o6], [.inl ((xs ((i + 3)).toNat)), .inl ((xs ((i + 2)).toNat)), .inl ((xs ((i + 1)).toNat)), .inr (.inl 0)], n, D, s, p, c) _
        have b38 := hxs ((i + 3)).toNat
        refine tt_k 4 (S' := (205, [some (.inr (.inl 1000004)), some (.inr (.inl 0)), some (.inr (.inl 30)), some (.inr (.inl 47)), some (.inl i), o5, o6], [.inl (i + 4), .inr (.inl 1000004), .inl ((xs ((i + 3)).toNat)), .inl ((xs ((i + 2)).toNat)), .inl ((xs ((i + 1)).toNat)), .inr (.inl 0)], n, D, s, p, c)) rfl ?_
        refine tt_stat (j := 4) (i := (i + 4)) rfl hs (by omega) ?_
        show tt Zi 12 0 (206, [some (.inr (.inl 1000004)), some (.inr (.inl 0)), some (.inr (.inl 30)), some (.inr (.inl 47)), some (.inl i), o5, o6], [.inl ((xs ((i + 4)).toNat)), .inl ((xs ((i + 3)).toNat)), .inl ((xs ((i + 2)).toNat)), .inl ((xs ((i + 1)).toNat)), .inr (.inl 0)], n, D, s, p, c) _
        have b39 := hxs ((i + 4)).toNat
        refine tt_k 4 (S' := (211, [some (.inr (.inl 1000004)), some (.inr (.inl 0)), some (.inr (.inl 30)), some (.inr (.inl 47)), some (.inl i), o5, o6], [.inl (i + 5), .inr (.inl 1000004), .inl ((xs ((i + 4)).toNat)), .inl ((xs ((i + 3)).toNat)), .inl ((xs ((i + 2)).toNat)), .inl ((xs ((i + 1)).toNat)), .inr (.inl 0)], n, D, s, p, c)) rfl ?_
        refine tt_stat (j := 4) (i := (i + 5)) rfl hs (by omega) ?_
        show tt Zi 12 0 (212, [some (.inr (.inl 1000004)), some (.inr (.inl 0)), some (.inr (.inl 30)), some (.inr (.inl 47)), some (.inl i), o5, o6], [.inl ((xs ((i + 5)).toNat)), .inl ((xs ((i + 4)).toNat)), .inl ((xs ((i + 3)).toNat)), .inl ((xs ((i + 2)).toNat)), .inl ((xs ((i + 1)).toNat)), .inr (.inl 0)], n, D, s, p, c) _
        have b40 := hxs ((i + 5)).toNat
        refine tt_k 4 (S' := (218, [some (.inr (.inl 1000004)), some (.inr (.inl 0)), some (.inr (.inl 30)), some (.inr (.inl 47)), some (.inl i), o5, o6], [.inl (i + 6), .inr (.inl 1000004), .inl ((xs ((i + 5)).toNat)), .inl ((xs ((i + 4)).toNat)), .inl ((xs ((i + 3)).toNat)), .inl ((xs ((i + 2)).toNat)), .inl ((xs ((i + 1)).toNat)), .inr (.inl 0)], n, D, s, p, c)) rfl ?_
        refine tt_stat (j := 4) (i := (i + 6)) rfl hs (by omega) ?_
        show tt Zi 12 0 (219, [some (.inr (.inl 1000004)), some (.inr (.inl 0)), some (.inr (.inl 30)), some (.inr (.inl 47)), some (.inl i), o5, o6], [.inl ((xs ((i + 6)).toNat)), .inl ((xs ((i + 5)).toNat)), .inl ((xs ((i + 4)).toNat)), .inl ((xs ((i + 3)).toNat)), .inl ((xs ((i + 2)).toNat)), .inl ((xs ((i + 1)).toNat)), .inr (.inl 0)], n, D, s, p, c) _
        have b41 := hxs ((i + 6)).toNat
        refine tt_k 4 (S' := (225, [some (.inr (.inl 1000004)), some (.inr (.inl 0)), some (.inr (.inl 30)), some (.inr (.inl 47)), some (.inl i), o5, o6], [.inl (i + 7), .inr (.inl 1000004), .inl ((xs ((i + 6)).toNat)), .inl ((xs ((i + 5)).toNat)), .inl ((xs ((i + 4)).toNat)), .inl ((xs ((i + 3)).toNat)), .inl ((xs ((i + 2)).toNat)), .inl ((xs ((i + 1)).toNat)), .inr (.inl 0)], n, D, s, p, c)) rfl ?_
        refine tt_stat (j := 4) (i := (i + 7)) rfl hs (by omega) ?_
        show tt Zi 12 0 (226, [some (.inr (.inl 1000004)), some (.inr (.inl 0)), some (.inr (.inl 30)), some (.inr (.inl 47)), some (.inl i), o5, o6], [.inl ((xs ((i + 7)).toNat)), .inl ((xs ((i + 6)).toNat)), .inl ((xs ((i + 5)).toNat)), .inl ((xs ((i + 4)).toNat)), .inl ((xs ((i + 3)).toNat)), .inl ((xs ((i + 2)).toNat)), .inl ((xs ((i + 1)).toNat)), .inr (.inl 0)], n, D, s, p, c) _
        have b42 := hxs ((i + 7)).toNat
        refine tt_k 4 (S' := (232, [some (.inr (.inl 1000004)), some (.inr (.inl 0)), some (.inr (.inl 30)), some (.inr (.inl 47)), some (.inl i), o5, o6], [.inl (i + 8), .inr (.inl 1000004), .inl ((xs ((i + 7)).toNat)), .inl ((xs ((i + 6)).toNat)), .inl ((xs ((i + 5)).toNat)), .inl ((xs ((i + 4)).toNat)), .inl ((xs ((i + 3)).toNat)), .inl ((xs ((i + 2)).toNat)), .inl ((xs ((i + 1)).toNat)), .inr (.inl 0)], n, D, s, p, c)) rfl ?_
        refine tt_stat (j := 4) (i := (i + 8)) rfl hs (by omega) ?_
        show tt Zi 12 0 (233, [some (.inr (.inl 1000004)), some (.inr (.inl 0)), some (.inr (.inl 30)), some (.inr (.inl 47)), some (.inl i), o5, o6], [.inl ((xs ((i + 8)).toNat)), .inl ((xs ((i + 7)).toNat)), .inl ((xs ((i + 6)).toNat)), .inl ((xs ((i + 5)).toNat)), .inl ((xs ((i + 4)).toNat)), .inl ((xs ((i + 3)).toNat)), .inl ((xs ((i + 2)).toNat)), .inl ((xs ((i + 1)).toNat)), .inr (.inl 0)], n, D, s, p, c) _
        have b43 := hxs ((i + 8)).toNat
        refine tt_cl (by omega) rfl (h_draw (Zi := Zi) (q := q) (n := n) (D := D) (s := s) (p := p) (c := c) (by omega) hz (by omega) hD hS hC (wp_rg hW) E ((xs ((i + 1)).toNat)) ((xs ((i + 2)).toNat)) ((xs ((i + 3)).toNat)) ((xs ((i + 4)).toNat)) ((xs ((i + 5)).toNat)) ((xs ((i + 6)).toNat)) ((xs ((i + 7)).toNat)) ((xs ((i + 8)).toNat)) (by omega) (by omega) (by omega) (by omega) (by omega) (by omega) (by omega) (by omega) hcE) ?_
        rintro _ ⟨n44, D45, s46, p47, c48⟩ ⟨r50, rfl, b51, hY49, k52, k53, k54⟩
        have hS46 : bS s46 := hY49.1
        have hC48 : bC D45 c48 := hY49.2.1
        have hW47 : wp _ _ n44 D45 p47 s46 := hY49.2.2.1
        have FKc : fk p c n44 p47 c48 [104] := hY49.2.2.2.1
        have FFc : fr s s46 [800, 801, 802, 803, 804, 805, 806, 807, 808, 809, 902, 1705, 1706, 2001, 2002, 2003, 2004, 2005, 2006, 2106, 2107, 2108, 2109, 2110, 2111, 2112, 2113, 2114, 2115, 2116, 2500, 2501, 2502, 2503, 2700, 2701, 2702, 2703] := hY49.2.2.2.2
        replace k52 : dwP r50 ((xs ((i + 1)).toNat)) ((xs ((i + 2)).toNat)) ((xs ((i + 3)).toNat)) ((xs ((i + 4)).toNat)) ((xs ((i + 5)).toNat)) ((xs ((i + 6)).toNat)) ((xs ((i + 7)).toNat)) ((xs ((i + 8)).toNat)) (s 100) (s 101) (s 102) (s 103) := k52
        replace k53 : r50 = 0 → cv (dE E ((xs ((i + 1)).toNat)) ((xs ((i + 2)).toNat)) ((xs ((i + 3)).toNat)) ((xs ((i + 4)).toNat)) ((xs ((i + 5)).toNat)) ((xs ((i + 6)).toNat)) ((xs ((i + 7)).toNat)) ((xs ((i + 8)).toNat)) (mi_shl 1 (s 103) - 1) ((xs ((i + 5)).toNat)) 0) (s 100) (s 101) (s 102) (c48 (p47 104)) := k53
        replace k54 : r50 ≠ 0 → fk p c n44 p47 c48 [] := k54
        show tt Zi 12 0 (236, [some (.inr (.inl 1000004)), some (.inr (.inl 0)), some (.inr (.inl 30)), some (.inr (.inl 47)), some (.inl i), o5, o6], [.inl r50], n44, D45, s46, p47, c48) _
        have tc100 : s46 100 = (s 100) := hW47.gz 100 rfl
        have tc101 : s46 101 = (s 101) := hW47.gz 101 rfl
        have tc102 : s46 102 = (s 102) := hW47.gz 102 rfl
        have tc103 : s46 103 = (s 103) := hW47.gz 103 rfl
        have tc3001 : s46 3001 = (s 3001) := hW47.gz 3001 rfl
        have tc3002 : s46 3002 = (s 3002) := hW47.gz 3002 rfl
        have tc3003 : s46 3003 = (s 3003) := hW47.gz 3003 rfl
        have tc3004 : s46 3004 = (s 3004) := hW47.gz 3004 rfl
        refine tt_k 6 (S' := (244, [some (.inr (.inl 1000004)), some (.inr (.inl 0)), some (.inr (.inl 30)), some (.inr (.inl 47)), some (.inl i), some (.inl r50), o6], [.inl (i + 1), .inr (.inl 1000004), .inr (.inl 30)], n44, D45, s46, p47, c48)) rfl ?_
        refine tt_stat (j := 4) (i := (i + 1)) rfl hs (by omega) ?_
        show tt Zi 12 0 (245, [some (.inr (.inl 1000004)), some (.inr (.inl 0)), some (.inr (.inl 30)), some (.inr (.inl 47)), some (.inl i), some (.inl r50), o6], [.inl ((xs ((i + 1)).toNat)), .inr (.inl 30)], n44, D45, s46, p47, c48) _
        refine tt_k 4 (S' := (250, [some (.inr (.inl 1000004)), some (.inr (.inl 0)), some (.inr (.inl 30)), some (.inr (.inl 47)), some (.inl i), some (.inl r50), o6], [.inl (i + 2), .inr (.inl 1000004), .inl ((xs ((i + 1)).toNat)), .inr (.inl 30)], n44, D45, s46, p47, c48)) rfl ?_
        refine tt_stat (j := 4) (i := (i + 2)) rfl hs (by omega) ?_
        show tt Zi 12 0 (251, [some (.inr (.inl 1000004)), some (.inr (.inl 0)), some (.inr (.inl 30)), some (.inr (.inl 47)), some (.inl i), some (.inl r50), o6], [.inl ((xs ((i + 2)).toNat)), .inl ((xs ((i + 1)).toNat)), .inr (.inl 30)], n44, D45, s46, p47, c48) _
        refine tt_k 4 (S' := (256, [some (.inr (.inl 1000004)), some (.inr (.inl 0)), some (.inr (.inl 30)), some (.inr (.inl 47)), some (.inl i), some (.inl r50), o6], [.inl (i + 3), .inr (.inl 1000004), .inl ((xs ((i + 2)).toNat)), .inl ((xs ((i + 1)).toNat)), .inr (.inl 30)], n44, D45, s46, p47, c48)) rfl ?_
        refine tt_stat (j := 4) (i := (i + 3)) rfl hs (by omega) ?_
        show tt Zi 12 0 (257, [some (.inr (.inl 1000004)), some (.inr (.inl 0)), some (.inr (.inl 30)), some (.inr (.inl 47)), some (.inl i), some (.inl r50), o6], [.inl ((xs ((i + 3)).toNat)), .inl ((xs ((i + 2)).toNat)), .inl ((xs ((i + 1)).toNat)), .inr (.inl 30)], n44, D45, s46, p47, c48) _
        refine tt_k 4 (S' := (262, [some (.inr (.inl 1000004)), some (.inr (.inl 0)), some (.inr (.inl 30)), some (.inr (.inl 47)), some (.inl i), some (.inl r50), o6], [.inl (i + 4), .inr (.inl 1000004), .inl ((xs ((i + 3)).toNat)), .inl ((xs ((i + 2)).toNat)), .inl ((xs ((i + 1)).toNat)), .inr (.inl 30)], n44, D45, s46, p47, c48)) rfl ?_
        refine tt_stat (j := 4) (i := (i + 4)) rfl hs (by omega) ?_
        show tt Zi 12 0 (263, [some (.inr (.inl 1000004)), some (.inr (.inl 0)), some (.inr (.inl 30)), some (.inr (.inl 47)), some (.inl i), some (.inl r50), o6], [.inl ((xs ((i + 4)).toNat)), .inl ((xs ((i + 3)).toNat)), .inl ((xs ((i + 2)).toNat)), .inl ((xs ((i + 1)).toNat)), .inr (.inl 30)], n44, D45, s46, p47, c48) _
        refine tt_k 4 (S' := (268, [some (.inr (.inl 1000004)), some (.inr (.inl 0)), some (.inr (.inl 30)), some (.inr (.inl 47)), some (.inl i), some (.inl r50), o6], [.inl (i + 5), .inr (.inl 1000004), .inl ((xs ((i + 4)).toNat)), .inl ((xs ((i + 3)).toNat)), .inl ((xs ((i + 2)).toNat)), .inl ((xs ((i + 1)).toNat)), .inr (.inl 30)], n44, D45, s46, p47, c48)) rfl ?_
        refine tt_stat (j := 4) (i := (i + 5)) rfl hs (by omega) ?_
        show tt Zi 12 0 (269, [some (.inr (.inl 1000004)), some (.inr (.inl 0)), some (.inr (.inl 30)), some (.inr (.inl 47)), some (.inl i), some (.inl r50), o6], [.inl ((xs ((i + 5)).toNat)), .inl ((xs ((i + 4)).toNat)), .inl ((xs ((i + 3)).toNat)), .inl ((xs ((i + 2)).toNat)), .inl ((xs ((i + 1)).toNat)), .inr (.inl 30)], n44, D45, s46, p47, c48) _
        refine tt_k 4 (S' := (275, [some (.inr (.inl 1000004)), some (.inr (.inl 0)), some (.inr (.inl 30)), some (.inr (.inl 47)), some (.inl i), some (.inl r50), o6], [.inl (i + 6), .inr (.inl 1000004), .inl ((xs ((i + 5)).toNat)), .inl ((xs ((i + 4)).toNat)), .inl ((xs ((i + 3)).toNat)), .inl ((xs ((i + 2)).toNat)), .inl ((xs ((i + 1)).toNat)), .inr (.inl 30)], n44, D45, s46, p47, c48)) rfl ?_
        refine tt_stat (j := 4) (i := (i + 6)) rfl hs (by omega) ?_
        show tt Zi 12 0 (276, [some (.inr (.inl 1000004)), some (.inr (.inl 0)), some (.inr (.inl 30)), some (.inr (.inl 47)), some (.inl i), some (.inl r50), o6], [.inl ((xs ((i + 6)).toNat)), .inl ((xs ((i + 5)).toNat)), .inl ((xs ((i + 4)).toNat)), .inl ((xs ((i + 3)).toNat)), .inl ((xs ((i + 2)).toNat)), .inl ((xs ((i + 1)).toNat)), .inr (.inl 30)], n44, D45, s46, p47, c48) _
        refine tt_k 4 (S' := (282, [some (.inr (.inl 1000004)), some (.inr (.inl 0)), some (.inr (.inl 30)), some (.inr (.inl 47)), some (.inl i), some (.inl r50), o6], [.inl (i + 7), .inr (.inl 1000004), .inl ((xs ((i + 6)).toNat)), .inl ((xs ((i + 5)).toNat)), .inl ((xs ((i + 4)).toNat)), .inl ((xs ((i + 3)).toNat)), .inl ((xs ((i + 2)).toNat)), .inl ((xs ((i + 1)).toNat)), .inr (.inl 30)], n44, D45, s46, p47, c48)) rfl ?_
        refine tt_stat (j := 4) (i := (i + 7)) rfl hs (by omega) ?_
        show tt Zi 12 0 (283, [some (.inr (.inl 1000004)), some (.inr (.inl 0)), some (.inr (.inl 30)), some (.inr (.inl 47)), some (.inl i), some (.inl r50), o6], [.inl ((xs ((i + 7)).toNat)), .inl ((xs ((i + 6)).toNat)), .inl ((xs ((i + 5)).toNat)), .inl ((xs ((i + 4)).toNat)), .inl ((xs ((i + 3)).toNat)), .inl ((xs ((i + 2)).toNat)), .inl ((xs ((i + 1)).toNat)), .inr (.inl 30)], n44, D45, s46, p47, c48) _
        refine tt_k 4 (S' := (289, [some (.inr (.inl 1000004)), some (.inr (.inl 0)), some (.inr (.inl 30)), some (.inr (.inl 47)), some (.inl i), some (.inl r50), o6], [.inl (i + 8), .inr (.inl 1000004), .inl ((xs ((i + 7)).toNat)), .inl ((xs ((i + 6)).toNat)), .inl ((xs ((i + 5)).toNat)), .inl ((xs ((i + 4)).toNat)), .inl ((xs ((i + 3)).toNat)), .inl ((xs ((i + 2)).toNat)), .inl ((xs ((i + 1)).toNat)), .inr (.inl 30)], n44, D45, s46, p47, c48)) rfl ?_
        refine tt_stat (j := 4) (i := (i + 8)) rfl hs (by omega) ?_
        show tt Zi 12 0 (290, [some (.inr (.inl 1000004)), some (.inr (.inl 0)), some (.inr (.inl 30)), some (.inr (.inl 47)), some (.inl i), some (.inl r50), o6], [.inl ((xs ((i + 8)).toNat)), .inl ((xs ((i + 7)).toNat)), .inl ((xs ((i + 6)).toNat)), .inl ((xs ((i + 5)).toNat)), .inl ((xs ((i + 4)).toNat)), .inl ((xs ((i + 3)).toNat)), .inl ((xs ((i + 2)).toNat)), .inl ((xs ((i + 1)).toNat)), .inr (.inl 30)], n44, D45, s46, p47, c48) _
        have eq3001 : (s46 3001) = s 100 := tc3001.trans ht.1.symm
        have eq3002 : (s46 3002) = s 101 := tc3002.trans ht.2.1.symm
        have eq3003 : (s46 3003) = s 102 := tc3003.trans ht.2.2.1.symm
        have eq3004 : (s46 3004) = s 103 := tc3004.trans ht.2.2.2.symm
        have hcr : cr E (s46 3001) (s46 3002) (s46 3003) (c48 31) := by rw [eq3001, eq3002, eq3003, fk_c (k := 31) FKc (by decide)]; exact hrE
        refine tt_cl (by omega) rfl (k_draw2 (Zi := Zi) (D := D45) (s := s46) (p := p47) (c := c48) (by omega) hS46 hC48 E ((xs ((i + 1)).toNat)) ((xs ((i + 2)).toNat)) ((xs ((i + 3)).toNat)) ((xs ((i + 4)).toNat)) ((xs ((i + 5)).toNat)) ((xs ((i + 6)).toNat)) ((xs ((i + 7)).toNat)) ((xs ((i + 8)).toNat)) (by omega) (by omega) (by omega) (by omega) (by omega) (by omega) (by omega) (by omega) hcr) ?_
        rintro _ _ ⟨s55, c56, rfl, rfl, hS55, hC56, f57, g58, k59, k60, k61⟩
        have hW62 := wp_rf f57 (by decide) hW47
        show tt Zi 12 0 (293, [some (.inr (.inl 1000004)), some (.inr (.inl 0)), some (.inr (.inl 30)), some (.inr (.inl 47)), some (.inl i), some (.inl r50), o6], [], n44, D45, s55, p47, c56) _
        have te100 : s55 100 = (s46 100) := f57 100 (by decide)
        have te101 : s55 101 = (s46 101) := f57 101 (by decide)
        have te102 : s55 102 = (s46 102) := f57 102 (by decide)
        have te103 : s55 103 = (s46 103) := f57 103 (by decide)
        have te3001 : s55 3001 = (s46 3001) := f57 3001 (by decide)
        have te3002 : s55 3002 = (s46 3002) := f57 3002 (by decide)
        have te3003 : s55 3003 = (s46 3003) := f57 3003 (by decide)
        have te3004 : s55 3004 = (s46 3004) := f57 3004 (by decide)
        have ht2 : tie s55 := ⟨te100.trans (tc100.trans (ht.1.trans (tc3001.symm.trans te3001.symm))), te101.trans (tc101.trans (ht.2.1.trans (tc3002.symm.trans te3002.symm))), te102.trans (tc102.trans (ht.2.2.1.trans (tc3003.symm.trans te3003.symm))), te103.trans (tc103.trans (ht.2.2.2.trans (tc3004.symm.trans te3004.symm)))⟩
        have FKr := fk_rc FKc.1 g58 (by decide)
        have hqd := dw_eq (k52) k59 eq3001 eq3002 eq3003 eq3004
        have tS2 : tiS s55 p47 c56 := tiS_dr hcE hrE FKc k53 k54 g58 k60 k61 hqd eq3001 eq3002 eq3003 eq3004 (te100.trans tc100) (te101.trans tc101) (te102.trans tc102)
        clear k59 k60 k61 eq3001 eq3002 eq3003 eq3004
        have q1 : tqC c56 := tqC_f hQ.1 FKc FKr (by decide)
        have q2 : tqW s55 := tqW_f (tqW_f hQ.2.1 FFc (by decide)) f57 (by decide)
        have q3 : tqP s55 p47 c56 := tqP_f hQ.2.2.1 FKc FKr (by decide) FFc (by decide) f57 (by decide)
        have q4 : tqT s55 := tqT_f (tqT_f hQ.2.2.2.1 FFc (by decide)) f57 (by decide)
        have q5 : tqB s55 p47 c56 := tqB_f hQ.2.2.2.2 FKc FKr (by decide) FFc (by decide) f57 (by decide)
        have tQ2 : tiQ s55 p47 c56 := ⟨q1, q2, q3, q4, q5⟩
        clear tc100 tc101 tc102 tc103 tc3001 tc3002 tc3003 tc3004 te100 te101 te102 te103 te3001 te3002 te3003 te3004
        refine tt_k 3 (S' := (23, [some (.inr (.inl 1000004)), some (.inr (.inl 0)), some (.inr (.inl 30)), some (.inr (.inl 47)), some (.inl (i + 9)), some (.inl r50), o6], [], n44, D45, s55, p47, c56)) rfl ?_
        exact ih (q + 1) (i + 9) (some (.inl r50)) (o6) (n44, D45, s55, p47, c56) ⟨hS55, hC56, (wp_rg hW62), FKr.1⟩ ht2 tS2 tQ2 (by omega) (by omega) (by omega) (by omega)
      by_cases h63 : (mi_and (xs (i).toNat) 15) = 2
      · have h64 := h63
        refine tt_tsw (x := (mi_and (xs (i).toNat) 15)) (off := 256) rfl (by omega) (by omega) (by rw [h63]; rfl) rfl ?_
        show tt Zi 12 0 (296, [some (.inr (.inl 1000004)), some (.inr (.inl 0)), some (.inr (.inl 30)), some (.inr (.inl 47)), some (.inl i), o5, o6], [], n, D, s, p, c) _
        refine tt_k 5 (S' := (302, [some (.inr (.inl 1000004)), some (.inr (.inl 0)), some (.inr (.inl 30)), some (.inr (.inl 47)), some (.inl i), o5, o6], [.inl (i + 1), .inr (.inl 1000004), .inr (.inl 0)], n, D, s, p, c)) rfl ?_
        refine tt_stat (j := 4) (i := (i + 1)) rfl hs (by omega) ?_
        show tt Zi 12 0 (303, [some (.inr (.inl 1000004)), some (.inr (.inl 0)), some (.inr (.inl 30)), some (.inr (.inl 47)), some (.inl i), o5, o6], [.inl ((xs ((i + 1)).toNat)), .inr (.inl 0)], n, D, s, p, c) _
        have b65 := hxs ((i + 1)).toNat
        refine tt_k 4 (S' := (308, [some (.inr (.inl 1000004)), some (.inr (.inl 0)), some (.inr (.inl 30)), some (.inr (.inl 47)), some (.inl i), o5, o6], [.inl (i + 2), .inr (.inl 1000004), .inl ((xs ((i + 1)).toNat)), .inr (.inl 0)], n, D, s, p, c)) rfl ?_
        refine tt_stat (j := 4) (i := (i + 2)) rfl hs (by omega) ?_
        show tt Zi 12 0 (309, [some (.inr (.inl 1000004)), some (.inr (.inl 0)), some (.inr (.inl 30)), some (.inr (.inl 47)), some (.inl i), o5, o6], [.inl ((xs ((i + 2)).toNat)), .inl ((xs ((i + 1)).toNat)), .inr (.inl 0)], n, D, s, p, c) _
        have b66 := hxs ((i + 2)).toNat
        refine tt_k 4 (S' := (314, [some (.inr (.inl 1000004)), some (.inr (.inl 0)), some (.inr (.inl 30)), some (.inr (.inl 47)), some (.inl i), o5, o6], [.inl (i + 3), .inr (.inl 1000004), .inl ((xs ((i + 2)).toNat)), .inl ((xs ((i + 1)).toNat)), .inr (.inl 0)], n, D, s, p, c)) rfl ?_
        refine tt_stat (j := 4) (i := (i + 3)) rfl hs (by omega) ?_
        show tt Zi 12 0 (315, [some (.inr (.inl 1000004)), some (.inr (.inl 0)), some (.inr (.inl 30)), some (.inr (.inl 47)), some (.inl i), o5, o6], [.inl ((xs ((i + 3)).toNat)), .inl ((xs ((i + 2)).toNat)), .inl ((xs ((i + 1)).toNat)), .inr (.inl 0)], n, D, s, p, c) _
        have b67 := hxs ((i + 3)).toNat
        refine tt_k 1 (S' := (316, [some (.inr (.inl 1000004)), some (.inr (.inl 0)), some (.inr (.inl 30)), some (.inr (.inl 47)), some (.inl i), o5, o6], [.inr (.inl 47), .inl ((xs ((i + 3)).toNat)), .inl ((xs ((i + 2)).toNat)), .inl ((xs ((i + 1)).toNat)), .inr (.inl 0)], n, D, s, p, c)) rfl ?_
        refine tt_cl (by omega) rfl (h_at (Zi := Zi) (q := q) (n := n) (D := D) (s := s) (p := p) (c := c) (by omega) hz (by omega) hD hS hC (wp_rg hW) ((xs ((i + 1)).toNat)) ((xs ((i + 2)).toNat)) ((xs ((i + 3)).toNat)) (by omega) (by omega) (by omega)) ?_
        rintro _ ⟨n68, D69, s70, p71, c72⟩ ⟨r74, rfl, b75, hY73, k76⟩
        have hS70 : bS s70 := hY73.1
        have hC72 : bC D69 c72 := hY73.2.1
        have hW71 : wp _ _ n68 D69 p71 s70 := hY73.2.2.1
        have FKc : fk p c n68 p71 c72 [47] := hY73.2.2.2.1
        have FFc : fr s s70 [800, 801, 802, 803, 804, 805, 806, 807, 808, 809, 902, 1705, 1706, 2001, 2002, 2003, 2004, 2005, 2006, 2106, 2107, 2108, 2109, 2110, 2111, 2112, 2113, 2114, 2115, 2116, 2500, 2501, 2502, 2503, 2700, 2701, 2702, 2703] := hY73.2.2.2.2
        replace k76 : atP r74 ((xs ((i + 1)).toNat)) ((xs ((i + 2)).toNat)) ((xs ((i + 3)).toNat)) (s 100) (s 101) (s 102) (c72 47 0) (c (p 104) ((((xs ((i + 1)).toNat)) * s 101 + ((xs ((i + 3)).toNat))) * s 100 + ((xs ((i + 2)).toNat))).toNat) := k76
        show tt Zi 12 0 (319, [some (.inr (.inl 1000004)), some (.inr (.inl 0)), some (.inr (.inl 30)), some (.inr (.inl 47)), some (.inl i), o5, o6], [.inl r74], n68, D69, s70, p71, c72) _
        have tc100 : s70 100 = (s 100) := hW71.gz 100 rfl
        have tc101 : s70 101 = (s 101) := hW71.gz 101 rfl
        have tc102 : s70 102 = (s 102) := hW71.gz 102 rfl
        have tc103 : s70 103 = (s 103) := hW71.gz 103 rfl
        have tc3001 : s70 3001 = (s 3001) := hW71.gz 3001 rfl
        have tc3002 : s70 3002 = (s 3002) := hW71.gz 3002 rfl
        have tc3003 : s70 3003 = (s 3003) := hW71.gz 3003 rfl
        have tc3004 : s70 3004 = (s 3004) := hW71.gz 3004 rfl
        refine tt_k 6 (S' := (327, [some (.inr (.inl 1000004)), some (.inr (.inl 0)), some (.inr (.inl 30)), some (.inr (.inl 47)), some (.inl i), some (.inl r74), o6], [.inl (i + 1), .inr (.inl 1000004), .inr (.inl 30)], n68, D69, s70, p71, c72)) rfl ?_
        refine tt_stat (j := 4) (i := (i + 1)) rfl hs (by omega) ?_
        show tt Zi 12 0 (328, [some (.inr (.inl 1000004)), some (.inr (.inl 0)), some (.inr (.inl 30)), some (.inr (.inl 47)), some (.inl i), some (.inl r74), o6], [.inl ((xs ((i + 1)).toNat)), .inr (.inl 30)], n68, D69, s70, p71, c72) _
        refine tt_k 4 (S' := (333, [some (.inr (.inl 1000004)), some (.inr (.inl 0)), some (.inr (.inl 30)), some (.inr (.inl 47)), some (.inl i), some (.inl r74), o6], [.inl (i + 2), .inr (.inl 1000004), .inl ((xs ((i + 1)).toNat)), .inr (.inl 30)], n68, D69, s70, p71, c72)) rfl ?_
        refine tt_stat (j := 4) (i := (i + 2)) rfl hs (by omega) ?_
        show tt Zi 12 0 (334, [some (.inr (.inl 1000004)), some (.inr (.inl 0)), some (.inr (.inl 30)), some (.inr (.inl 47)), some (.inl i), some (.inl r74), o6], [.inl ((xs ((i + 2)).toNat)), .inl ((xs ((i + 1)).toNat)), .inr (.inl 30)], n68, D69, s70, p71, c72) _
        refine tt_k 4 (S' := (339, [some (.inr (.inl 1000004)), some (.inr (.inl 0)), some (.inr (.inl 30)), some (.inr (.inl 47)), some (.inl i), some (.inl r74), o6], [.inl (i + 3), .inr (.inl 1000004), .inl ((xs ((i + 2)).toNat)), .inl ((xs ((i + 1)).toNat)), .inr (.inl 30)], n68, D69, s70, p71, c72)) rfl ?_
        refine tt_stat (j := 4) (i := (i + 3)) rfl hs (by omega) ?_
        show tt Zi 12 0 (340, [some (.inr (.inl 1000004)), some (.inr (.inl 0)), some (.inr (.inl 30)), some (.inr (.inl 47)), some (.inl i), some (.inl r74), o6], [.inl ((xs ((i + 3)).toNat)), .inl ((xs ((i + 2)).toNat)), .inl ((xs ((i + 1)).toNat)), .inr (.inl 30)], n68, D69, s70, p71, c72) _
        refine tt_cl (by omega) rfl (k_at2 (Zi := Zi) (D := D69) (s := s70) (p := p71) (c := c72) (by omega) hS70 hC72 ((xs ((i + 1)).toNat)) ((xs ((i + 2)).toNat)) ((xs ((i + 3)).toNat)) (by omega) (by omega) (by omega)) ?_
        rintro _ _ ⟨s77, r78, rfl, rfl, hS77, f79, b80, k81, k82⟩
        have hW83 := wp_rf f79 (by decide) hW71
        show tt Zi 12 0 (343, [some (.inr (.inl 1000004)), some (.inr (.inl 0)), some (.inr (.inl 30)), some (.inr (.inl 47)), some (.inl i), some (.inl r74), o6], [.inl r78], n68, D69, s77, p71, c72) _
        have te100 : s77 100 = (s70 100) := f79 100 (by decide)
        have te101 : s77 101 = (s70 101) := f79 101 (by decide)
        have te102 : s77 102 = (s70 102) := f79 102 (by decide)
        have te103 : s77 103 = (s70 103) := f79 103 (by decide)
        have te3001 : s77 3001 = (s70 3001) := f79 3001 (by decide)
        have te3002 : s77 3002 = (s70 3002) := f79 3002 (by decide)
        have te3003 : s77 3003 = (s70 3003) := f79 3003 (by decide)
        have te3004 : s77 3004 = (s70 3004) := f79 3004 (by decide)
        have ht2 : tie s77 := ⟨te100.trans (tc100.trans (ht.1.trans (tc3001.symm.trans te3001.symm))), te101.trans (tc101.trans (ht.2.1.trans (tc3002.symm.trans te3002.symm))), te102.trans (tc102.trans (ht.2.2.1.trans (tc3003.symm.trans te3003.symm))), te103.trans (tc103.trans (ht.2.2.2.trans (tc3004.symm.trans te3004.symm)))⟩
        have FKr := fk_rf (c := c72) (K := []) FKc.1
        have tS2 : tiS s77 p71 c72 := tiS_fk (tiS_fk ⟨E, hcE, hrE⟩ FKc (by decide) tc100 tc101 tc102) FKr (by decide) te100 te101 te102
        have eq3001 : (s70 3001) = s 100 := tc3001.trans ht.1.symm
        have eq3002 : (s70 3002) = s 101 := tc3002.trans ht.2.1.symm
        have eq3003 : (s70 3003) = s 102 := tc3003.trans ht.2.2.1.symm
        have hqa := at_q hcE hrE FKc k76 k81 k82 eq3001 eq3002 eq3003
        clear k81 k82 eq3001 eq3002 eq3003
        have q1 : tqC c72 := tqC_f hQ.1 FKc FKr (by decide)
        have q2 : tqW s77 := tqW_f (tqW_f hQ.2.1 FFc (by decide)) f79 (by decide)
        have q3 : tqP s77 p71 c72 := tqP_f hQ.2.2.1 FKc FKr (by decide) FFc (by decide) f79 (by decide)
        have q4 : tqT s77 := tqT_f (tqT_f hQ.2.2.2.1 FFc (by decide)) f79 (by decide)
        have q5 : tqB s77 p71 c72 := tqB_f hQ.2.2.2.2 FKc FKr (by decide) FFc (by decide) f79 (by decide)
        have tQ2 : tiQ s77 p71 c72 := ⟨q1, q2, q3, q4, q5⟩
        clear tc100 tc101 tc102 tc103 tc3001 tc3002 tc3003 tc3004 te100 te101 te102 te103 te3001 te3002 te3003 te3004
        refine tt_k 4 (S' := (23, [some (.inr (.inl 1000004)), some (.inr (.inl 0)), some (.inr (.inl 30)), some (.inr (.inl 47)), some (.inl (i + 9)), some (.inl r74), some (.inl r78)], [], n68, D69, s77, p71, c72)) rfl ?_
        exact ih (q + 1) (i + 9) (some (.inl r74)) (some (.inl r78)) (n68, D69, s77, p71, c72) ⟨hS77, hC72, (wp_rg hW83), FKr.1⟩ ht2 tS2 tQ2 (by omega) (by omega) (by omega) (by omega)
      by_cases h84 : (mi_and (xs (i).toNat) 15) = 3
      · have h85 := h84
        refine tt_tsw (x := (mi_and (xs (i).toNat) 15)) (off := 308) rfl (by omega) (by omega) (by rw [h84]; rfl) rfl ?_
        show tt Zi 12 0 (348, [some (.inr (.inl 1000004)), some (.inr (.inl 0)), some (.inr (.inl 30)), some (.inr (.inl 47)), some (.inl i), o5, o6], [], n, D, s, p, c) _
        refine tt_k 5 (S' := (354, [some (.inr (.inl 1000004)), some (.inr (.inl 0)), some (.inr (.inl 30)), some (.inr (.inl 47)), some (.inl i), o5, o6], [.inl (i + 1), .inr (.inl 1000004), .inr (.inl 0)], n, D, s, p, c)) rfl ?_
        refine tt_stat (j := 4) (i := (i + 1)) rfl hs (by omega) ?_
        show tt Zi 12 0 (355, [some (.inr (.inl 1000004)), some (.inr (.inl 0)), some (.inr (.inl 30)), some (.inr (.inl 47)), some (.inl i), o5, o6], [.inl ((xs ((i + 1)).toNat)), .inr (.inl 0)], n, D, s, p, c) _
        have b86 := hxs ((i + 1)).toNat
        refine tt_k 4 (S' := (360, [some (.inr (.inl 1000004)), some (.inr (.inl 0)), some (.inr (.inl 30)), some (.inr (.inl 47)), some (.inl i), o5, o6], [.inl (i + 2), .inr (.inl 1000004), .inl ((xs ((i + 1)).toNat)), .inr (.inl 0)], n, D, s, p, c)) rfl ?_
        refine tt_stat (j := 4) (i := (i + 2)) rfl hs (by omega) ?_
        show tt Zi 12 0 (361, [some (.inr (.inl 1000004)), some (.inr (.inl 0)), some (.inr (.inl 30)), some (.inr (.inl 47)), some (.inl i), o5, o6], [.inl ((xs ((i + 2)).toNat)), .inl ((xs ((i + 1)).toNat)), .inr (.inl 0)], n, D, s, p, c) _
        have b87 := hxs ((i + 2)).toNat
        refine tt_k 4 (S' := (366, [some (.inr (.inl 1000004)), some (.inr (.inl 0)), some (.inr (.inl 30)), some (.inr (.inl 47)), some (.inl i), o5, o6], [.inl (i + 3), .inr (.inl 1000004), .inl ((xs ((i + 2)).toNat)), .inl ((xs ((i + 1)).toNat)), .inr (.inl 0)], n, D, s, p, c)) rfl ?_
        refine tt_stat (j := 4) (i := (i + 3)) rfl hs (by omega) ?_
        show tt Zi 12 0 (367, [some (.inr (.inl 1000004)), some (.inr (.inl 0)), some (.inr (.inl 30)), some (.inr (.inl 47)), some (.inl i), o5, o6], [.inl ((xs ((i + 3)).toNat)), .inl ((xs ((i + 2)).toNat)), .inl ((xs ((i + 1)).toNat)), .inr (.inl 0)], n, D, s, p, c) _
        have b88 := hxs ((i + 3)).toNat
        refine tt_k 4 (S' := (372, [some (.inr (.inl 1000004)), some (.inr (.inl 0)), some (.inr (.inl 30)), some (.inr (.inl 47)), some (.inl i), o5, o6], [.inl (i + 4), .inr (.inl 1000004), .inl ((xs ((i + 3)).toNat)), .inl ((xs ((i + 2)).toNat)), .inl ((xs ((i + 1)).toNat)), .inr (.inl 0)], n, D, s, p, c)) rfl ?_
        refine tt_stat (j := 4) (i := (i + 4)) rfl hs (by omega) ?_
        show tt Zi 12 0 (373, [some (.inr (.inl 1000004)), some (.inr (.inl 0)), some (.inr (.inl 30)), some (.inr (.inl 47)), some (.inl i), o5, o6], [.inl ((xs ((i + 4)).toNat)), .inl ((xs ((i + 3)).toNat)), .inl ((xs ((i + 2)).toNat)), .inl ((xs ((i + 1)).toNat)), .inr (.inl 0)], n, D, s, p, c) _
        have b89 := hxs ((i + 4)).toNat
        refine tt_k 4 (S' := (378, [some (.inr (.inl 1000004)), some (.inr (.inl 0)), some (.inr (.inl 30)), some (.inr (.inl 47)), some (.inl i), o5, o6], [.inl (i + 5), .inr (.inl 1000004), .inl ((xs ((i + 4)).toNat)), .inl ((xs ((i + 3)).toNat)), .inl ((xs ((i + 2)).toNat)), .inl ((xs ((i + 1)).toNat)), .inr (.inl 0)], n, D, s, p, c)) rfl ?_
        refine tt_stat (j := 4) (i := (i + 5)) rfl hs (by omega) ?_
        show tt Zi 12 0 (379, [some (.inr (.inl 1000004)), some (.inr (.inl 0)), some (.inr (.inl 30)), some (.inr (.inl 47)), some (.inl i), o5, o6], [.inl ((xs ((i + 5)).toNat)), .inl ((xs ((i + 4)).toNat)), .inl ((xs ((i + 3)).toNat)), .inl ((xs ((i + 2)).toNat)), .inl ((xs ((i + 1)).toNat)), .inr (.inl 0)], n, D, s, p, c) _
        have b90 := hxs ((i + 5)).toNat
        refine tt_cl (by omega) rfl (h_measures (Zi := Zi) (q := q) (n := n) (D := D) (s := s) (p := p) (c := c) (by omega) hz (by omega) hD hS hC (wp_rg hW) ((xs ((i + 1)).toNat)) ((xs ((i + 2)).toNat)) ((xs ((i + 3)).toNat)) ((xs ((i + 4)).toNat)) ((xs ((i + 5)).toNat)) (by omega) (by omega) (by omega) (by omega) (by omega)) ?_
        rintro _ ⟨n91, D92, s93, p94, c95⟩ ⟨r97, rfl, b98, hY96, k99, k100, k101⟩
        have hS93 : bS s93 := hY96.1
        have hC95 : bC D92 c95 := hY96.2.1
        have hW94 : wp _ _ n91 D92 p94 s93 := hY96.2.2.1
        have FKc : fk p c n91 p94 c95 [3] := hY96.2.2.2.1
        have FFc : fr s s93 [800, 801, 802, 803, 804, 805, 806, 807, 808, 809, 902, 1705, 1706, 2001, 2002, 2003, 2004, 2005, 2006, 2106, 2107, 2108, 2109, 2110, 2111, 2112, 2113, 2114, 2115, 2116, 2500, 2501, 2502, 2503, 2700, 2701, 2702, 2703] := hY96.2.2.2.2
        replace k99 : meP r97 ((xs ((i + 1)).toNat)) ((xs ((i + 2)).toNat)) ((xs ((i + 3)).toNat)) ((xs ((i + 4)).toNat)) ((xs ((i + 5)).toNat)) (s 103) := k99
        replace k100 : r97 = 0 → (c95 3 0 = ((xs ((i + 1)).toNat)) ∧ c95 3 1 = ((xs ((i + 2)).toNat)) ∧ c95 3 2 = ((xs ((i + 3)).toNat)) ∧ c95 3 3 = ((xs ((i + 4)).toNat)) ∧ c95 3 4 = ((xs ((i + 5)).toNat))) := k100
        replace k101 : r97 ≠ 0 → fk p c n91 p94 c95 [] := k101
        show tt Zi 12 0 (382, [some (.inr (.inl 1000004)), some (.inr (.inl 0)), some (.inr (.inl 30)), some (.inr (.inl 47)), some (.inl i), o5, o6], [.inl r97], n91, D92, s93, p94, c95) _
        have tc100 : s93 100 = (s 100) := hW94.gz 100 rfl
        have tc101 : s93 101 = (s 101) := hW94.gz 101 rfl
        have tc102 : s93 102 = (s 102) := hW94.gz 102 rfl
        have tc103 : s93 103 = (s 103) := hW94.gz 103 rfl
        have tc3001 : s93 3001 = (s 3001) := hW94.gz 3001 rfl
        have tc3002 : s93 3002 = (s 3002) := hW94.gz 3002 rfl
        have tc3003 : s93 3003 = (s 3003) := hW94.gz 3003 rfl
        have tc3004 : s93 3004 = (s 3004) := hW94.gz 3004 rfl
        refine tt_k 6 (S' := (390, [some (.inr (.inl 1000004)), some (.inr (.inl 0)), some (.inr (.inl 30)), some (.inr (.inl 47)), some (.inl i), some (.inl r97), o6], [.inl (i + 1), .inr (.inl 1000004), .inr (.inl 30)], n91, D92, s93, p94, c95)) rfl ?_
        refine tt_stat (j := 4) (i := (i + 1)) rfl hs (by omega) ?_
        show tt Zi 12 0 (391, [some (.inr (.inl 1000004)), some (.inr (.inl 0)), some (.inr (.inl 30)), some (.inr (.inl 47)), some (.inl i), some (.inl r97), o6], [.inl ((xs ((i + 1)).toNat)), .inr (.inl 30)], n91, D92, s93, p94, c95) _
        refine tt_k 4 (S' := (396, [some (.inr (.inl 1000004)), some (.inr (.inl 0)), some (.inr (.inl 30)), some (.inr (.inl 47)), some (.inl i), some (.inl r97), o6], [.inl (i + 2), .inr (.inl 1000004), .inl ((xs ((i + 1)).toNat)), .inr (.inl 30)], n91, D92, s93, p94, c95)) rfl ?_
        refine tt_stat (j := 4) (i := (i + 2)) rfl hs (by omega) ?_
        show tt Zi 12 0 (397, [some (.inr (.inl 1000004)), some (.inr (.inl 0)), some (.inr (.inl 30)), some (.inr (.inl 47)), some (.inl i), some (.inl r97), o6], [.inl ((xs ((i + 2)).toNat)), .inl ((xs ((i + 1)).toNat)), .inr (.inl 30)], n91, D92, s93, p94, c95) _
        refine tt_k 4 (S' := (402, [some (.inr (.inl 1000004)), some (.inr (.inl 0)), some (.inr (.inl 30)), some (.inr (.inl 47)), some (.inl i), some (.inl r97), o6], [.inl (i + 3), .inr (.inl 1000004), .inl ((xs ((i + 2)).toNat)), .inl ((xs ((i + 1)).toNat)), .inr (.inl 30)], n91, D92, s93, p94, c95)) rfl ?_
        refine tt_stat (j := 4) (i := (i + 3)) rfl hs (by omega) ?_
        show tt Zi 12 0 (403, [some (.inr (.inl 1000004)), some (.inr (.inl 0)), some (.inr (.inl 30)), some (.inr (.inl 47)), some (.inl i), some (.inl r97), o6], [.inl ((xs ((i + 3)).toNat)), .inl ((xs ((i + 2)).toNat)), .inl ((xs ((i + 1)).toNat)), .inr (.inl 30)], n91, D92, s93, p94, c95) _
        refine tt_k 4 (S' := (408, [some (.inr (.inl 1000004)), some (.inr (.inl 0)), some (.inr (.inl 30)), some (.inr (.inl 47)), some (.inl i), some (.inl r97), o6], [.inl (i + 4), .inr (.inl 1000004), .inl ((xs ((i + 3)).toNat)), .inl ((xs ((i + 2)).toNat)), .inl ((xs ((i + 1)).toNat)), .inr (.inl 30)], n91, D92, s93, p94, c95)) rfl ?_
        refine tt_stat (j := 4) (i := (i + 4)) rfl hs (by omega) ?_
        show tt Zi 12 0 (409, [some (.inr (.inl 1000004)), some (.inr (.inl 0)), some (.inr (.inl 30)), some (.inr (.inl 47)), some (.inl i), some (.inl r97), o6], [.inl ((xs ((i + 4)).toNat)), .inl ((xs ((i + 3)).toNat)), .inl ((xs ((i + 2)).toNat)), .inl ((xs ((i + 1)).toNat)), .inr (.inl 30)], n91, D92, s93, p94, c95) _
        refine tt_k 4 (S' := (414, [some (.inr (.inl 1000004)), some (.inr (.inl 0)), some (.inr (.inl 30)), some (.inr (.inl 47)), some (.inl i), some (.inl r97), o6], [.inl (i + 5), .inr (.inl 1000004), .inl ((xs ((i + 4)).toNat)), .inl ((xs ((i + 3)).toNat)), .inl ((xs ((i + 2)).toNat)), .inl ((xs ((i + 1)).toNat)), .inr (.inl 30)], n91, D92, s93, p94, c95)) rfl ?_
        refine tt_stat (j := 4) (i := (i + 5)) rfl hs (by omega) ?_
        show tt Zi 12 0 (415, [some (.inr (.inl 1000004)), some (.inr (.inl 0)), some (.inr (.inl 30)), some (.inr (.inl 47)), some (.inl i), some (.inl r97), o6], [.inl ((xs ((i + 5)).toNat)), .inl ((xs ((i + 4)).toNat)), .inl ((xs ((i + 3)).toNat)), .inl ((xs ((i + 2)).toNat)), .inl ((xs ((i + 1)).toNat)), .inr (.inl 30)], n91, D92, s93, p94, c95) _
        refine tt_cl (by omega) rfl (k_measures3 (Zi := Zi) (D := D92) (s := s93) (p := p94) (c := c95) (by omega) hS93 hC95 ((xs ((i + 1)).toNat)) ((xs ((i + 2)).toNat)) ((xs ((i + 3)).toNat)) ((xs ((i + 4)).toNat)) ((xs ((i + 5)).toNat)) (by omega) (by omega) (by omega) (by omega) (by omega)) ?_
        rintro _ _ ⟨s102, c103, rfl, rfl, hS102, hC103, f104, g105, k106, k107⟩
        have hW108 := wp_rf f104 (by decide) hW94
        show tt Zi 12 0 (418, [some (.inr (.inl 1000004)), some (.inr (.inl 0)), some (.inr (.inl 30)), some (.inr (.inl 47)), some (.inl i), some (.inl r97), o6], [], n91, D92, s102, p94, c103) _
        have te100 : s102 100 = (s93 100) := f104 100 (by decide)
        have te101 : s102 101 = (s93 101) := f104 101 (by decide)
        have te102 : s102 102 = (s93 102) := f104 102 (by decide)
        have te103 : s102 103 = (s93 103) := f104 103 (by decide)
        have te3001 : s102 3001 = (s93 3001) := f104 3001 (by decide)
        have te3002 : s102 3002 = (s93 3002) := f104 3002 (by decide)
        have te3003 : s102 3003 = (s93 3003) := f104 3003 (by decide)
        have te3004 : s102 3004 = (s93 3004) := f104 3004 (by decide)
        have ht2 : tie s102 := ⟨te100.trans (tc100.trans (ht.1.trans (tc3001.symm.trans te3001.symm))), te101.trans (tc101.trans (ht.2.1.trans (tc3002.symm.trans te3002.symm))), te102.trans (tc102.trans (ht.2.2.1.trans (tc3003.symm.trans te3003.symm))), te103.trans (tc103.trans (ht.2.2.2.trans (tc3004.symm.trans te3004.symm)))⟩
        have FKr := fk_rc FKc.1 g105 (by decide)
        have tS2 : tiS s102 p94 c103 := tiS_fk (tiS_fk ⟨E, hcE, hrE⟩ FKc (by decide) tc100 tc101 tc102) FKr (by decide) te100 te101 te102
        have q1 : tqC c103 := tqC_me hQ.1 FKc k99 k100 k101 g105 (tc3004.trans ht.2.2.2.symm) k107
        have q2 : tqW s102 := tqW_f (tqW_f hQ.2.1 FFc (by decide)) f104 (by decide)
        have q3 : tqP s102 p94 c103 := tqP_f hQ.2.2.1 FKc FKr (by decide) FFc (by decide) f104 (by decide)
        have q4 : tqT s102 := tqT_f (tqT_f hQ.2.2.2.1 FFc (by decide)) f104 (by decide)
        have q5 : tqB s102 p94 c103 := tqB_f hQ.2.2.2.2 FKc FKr (by decide) FFc (by decide) f104 (by decide)
        have tQ2 : tiQ s102 p94 c103 := ⟨q1, q2, q3, q4, q5⟩
        clear tc100 tc101 tc102 tc103 tc3001 tc3002 tc3003 tc3004 te100 te101 te102 te103 te3001 te3002 te3003 te3004
        refine tt_k 3 (S' := (23, [some (.inr (.inl 1000004)), some (.inr (.inl 0)), some (.inr (.inl 30)), some (.inr (.inl 47)), some (.inl (i + 9)), some (.inl r97), o6], [], n91, D92, s102, p94, c103)) rfl ?_
        exact ih (q + 1) (i + 9) (some (.inl r97)) (o6) (n91, D92, s102, p94, c103) ⟨hS102, hC103, (wp_rg hW108), FKr.1⟩ ht2 tS2 tQ2 (by omega) (by omega) (by omega) (by omega)
      by_cases h109 : (mi_and (xs (i).toNat) 15) = 4
      · have h110 := h109
        refine tt_tsw (x := (mi_and (xs (i).toNat) 15)) (off := 381) rfl (by omega) (by omega) (by rw [h109]; rfl) rfl ?_
        show tt Zi 12 0 (421, [some (.inr (.inl 1000004)), some (.inr (.inl 0)), some (.inr (.inl 30)), some (.inr (.inl 47)), some (.inl i), o5, o6], [], n, D, s, p, c) _
        refine tt_k 5 (S' := (427, [some (.inr (.inl 1000004)), some (.inr (.inl 0)), some (.inr (.inl 30)), some (.inr (.inl 47)), some (.inl i), o5, o6], [.inl (i + 1), .inr (.inl 1000004), .inr (.inl 0)], n, D, s, p, c)) rfl ?_
        refine tt_stat (j := 4) (i := (i + 1)) rfl hs (by omega) ?_
        show tt Zi 12 0 (428, [some (.inr (.inl 1000004)), some (.inr (.inl 0)), some (.inr (.inl 30)), some (.inr (.inl 47)), some (.inl i), o5, o6], [.inl ((xs ((i + 1)).toNat)), .inr (.inl 0)], n, D, s, p, c) _
        have b111 := hxs ((i + 1)).toNat
        refine tt_k 1 (S' := (429, [some (.inr (.inl 1000004)), some (.inr (.inl 0)), some (.inr (.inl 30)), some (.inr (.inl 47)), some (.inl i), o5, o6], [.inr (.inl 47), .inl ((xs ((i + 1)).toNat)), .inr (.inl 0)], n, D, s, p, c)) rfl ?_
        refine tt_cl (by omega) rfl (h_pack (Zi := Zi) (q := q) (n := n) (D := D) (s := s) (p := p) (c := c) (by omega) hz (by omega) hD hS hC (wp_rg hW) E ((xs ((i + 1)).toNat)) (by omega) hcE hQ.2.1) ?_
        rintro _ ⟨n112, D113, s114, p115, c116⟩ ⟨r118, rfl, b119, hY117, k120, k121, k122, k123, k124, k125, k126, k127⟩
        have hS114 : bS s114 := hY117.1
        have hC116 : bC D113 c116 := hY117.2.1
        have hW115 : wp _ _ n112 D113 p115 s114 := hY117.2.2.1
        have FKc : fk p c n112 p115 c116 [47, 400, 900, 901, 1203, 1204] := hY117.2.2.2.1
        have FFc : fr s s114 [401, 800, 801, 802, 803, 804, 805, 806, 807, 808, 809, 902, 1206, 1207, 1208, 1209, 1210, 1211, 1212, 1213, 1214, 1215, 1216, 1601, 1602, 1705, 1706, 2001, 2002, 2003, 2004, 2005, 2006, 2106, 2107, 2108, 2109, 2110, 2111, 2112, 2113, 2114, 2115, 2116, 2500, 2501, 2502, 2503, 2700, 2701, 2702, 2703] := hY117.2.2.2.2
        replace k120 : r118 = 0 → ((VM (c 3 0) (c 3 1) (c 3 2) (c 3 3) (c 3 4) (s 103) ((xs ((i + 1)).toNat))) ∧ AB E (s 100) (s 101) (s 102) (zMo (c 3 0) (s 103))) := k120
        replace k121 : r118 ≠ 0 → ¬ ((VM (c 3 0) (c 3 1) (c 3 2) (c 3 3) (c 3 4) (s 103) ((xs ((i + 1)).toNat))) ∧ AB E (s 100) (s 101) (s 102) (zMo (c 3 0) (s 103))) := k121
        replace k122 : r118 = 0 → c116 47 0 = s114 401 := k122
        replace k123 : r118 = 0 → wrl (PK (c 3 0) (c 3 1) (c 3 2) (c 3 3) (c 3 4) (s 100) (s 101) (s 102) (s 103) ((xs ((i + 1)).toNat)) E) (s114 401) 0 8 (c116 (p115 400)) := k123
        replace k124 : r118 = 0 → s114 1601 = 0 ∧ s114 1602 = 8 := k124
        replace k125 : r118 ≠ 0 → s114 401 = s 401 ∧ s114 1601 = s 1601 ∧ s114 1602 = s 1602 := k125
        replace k126 : r118 = 0 ∨ r118 = 1 := k126
        replace k127 : r118 ≠ 0 → fk p c n112 p115 c116 [] := k127
        show tt Zi 12 0 (432, [some (.inr (.inl 1000004)), some (.inr (.inl 0)), some (.inr (.inl 30)), some (.inr (.inl 47)), some (.inl i), o5, o6], [.inl r118], n112, D113, s114, p115, c116) _
        have tc100 : s114 100 = (s 100) := hW115.gz 100 rfl
        have tc101 : s114 101 = (s 101) := hW115.gz 101 rfl
        have tc102 : s114 102 = (s 102) := hW115.gz 102 rfl
        have tc103 : s114 103 = (s 103) := hW115.gz 103 rfl
        have tc3001 : s114 3001 = (s 3001) := hW115.gz 3001 rfl
        have tc3002 : s114 3002 = (s 3002) := hW115.gz 3002 rfl
        have tc3003 : s114 3003 = (s 3003) := hW115.gz 3003 rfl
        have tc3004 : s114 3004 = (s 3004) := hW115.gz 3004 rfl
        refine tt_k 6 (S' := (440, [some (.inr (.inl 1000004)), some (.inr (.inl 0)), some (.inr (.inl 30)), some (.inr (.inl 47)), some (.inl i), some (.inl r118), o6], [.inl (i + 1), .inr (.inl 1000004), .inr (.inl 30)], n112, D113, s114, p115, c116)) rfl ?_
        refine tt_stat (j := 4) (i := (i + 1)) rfl hs (by omega) ?_
        show tt Zi 12 0 (441, [some (.inr (.inl 1000004)), some (.inr (.inl 0)), some (.inr (.inl 30)), some (.inr (.inl 47)), some (.inl i), some (.inl r118), o6], [.inl ((xs ((i + 1)).toNat)), .inr (.inl 30)], n112, D113, s114, p115, c116) _
        have eq3001 : (s114 3001) = s 100 := tc3001.trans ht.1.symm
        have eq3002 : (s114 3002) = s 101 := tc3002.trans ht.2.1.symm
        have eq3003 : (s114 3003) = s 102 := tc3003.trans ht.2.2.1.symm
        have eq3004 : (s114 3004) = s 103 := tc3004.trans ht.2.2.2.symm
        have hcr : cr E (s114 3001) (s114 3002) (s114 3003) (c116 31) := by rw [eq3001, eq3002, eq3003, fk_c (k := 31) FKc (by decide)]; exact hrE
        refine tt_cl (by omega) rfl (x_pack (Zi := Zi) (D := D113) (s := s114) (p := p115) (c := c116) (by omega) hS114 hC116 E ((xs ((i + 1)).toNat)) (by omega) hcr) ?_
        rintro _ _ ⟨s128, c129, r130, rfl, rfl, hS128, hC129, f131, g132, b133, k134⟩
        have hW135 := wp_rf f131 (by decide) hW115
        show tt Zi 12 0 (444, [some (.inr (.inl 1000004)), some (.inr (.inl 0)), some (.inr (.inl 30)), some (.inr (.inl 47)), some (.inl i), some (.inl r118), o6], [.inl r130], n112, D113, s128, p115, c129) _
        have te100 : s128 100 = (s114 100) := f131 100 (by decide)
        have te101 : s128 101 = (s114 101) := f131 101 (by decide)
        have te102 : s128 102 = (s114 102) := f131 102 (by decide)
        have te103 : s128 103 = (s114 103) := f131 103 (by decide)
        have te3001 : s128 3001 = (s114 3001) := f131 3001 (by decide)
        have te3002 : s128 3002 = (s114 3002) := f131 3002 (by decide)
        have te3003 : s128 3003 = (s114 3003) := f131 3003 (by decide)
        have te3004 : s128 3004 = (s114 3004) := f131 3004 (by decide)
        have ht2 : tie s128 := ⟨te100.trans (tc100.trans (ht.1.trans (tc3001.symm.trans te3001.symm))), te101.trans (tc101.trans (ht.2.1.trans (tc3002.symm.trans te3002.symm))), te102.trans (tc102.trans (ht.2.2.1.trans (tc3003.symm.trans te3003.symm))), te103.trans (tc103.trans (ht.2.2.2.trans (tc3004.symm.trans te3004.symm)))⟩
        have FKr := fk_rc FKc.1 g132 (by decide)
        have tS2 : tiS s128 p115 c129 := tiS_fk (tiS_fk ⟨E, hcE, hrE⟩ FKc (by decide) tc100 tc101 tc102) FKr (by decide) te100 te101 te102
        have q1 : tqC c129 := tqC_f hQ.1 FKc FKr (by decide)
        have q2 : tqW s128 := tqW_f (show tqW s114 from if e0 : r118 = 0 then k124 e0 else ⟨(k125 e0).2.1.trans hQ.2.1.1, (k125 e0).2.2.trans hQ.2.1.2⟩) f131 (by decide)
        have er0 : c116 32 0 = c 3 0 := by rw [fk_c (k := 32) FKc (by decide)]; exact (hQ.1 0 (by decide)).symm
        have er1 : c116 32 1 = c 3 1 := by rw [fk_c (k := 32) FKc (by decide)]; exact (hQ.1 1 (by decide)).symm
        have er2 : c116 32 2 = c 3 2 := by rw [fk_c (k := 32) FKc (by decide)]; exact (hQ.1 2 (by decide)).symm
        have er3 : c116 32 3 = c 3 3 := by rw [fk_c (k := 32) FKc (by decide)]; exact (hQ.1 3 (by decide)).symm
        have er4 : c116 32 4 = c 3 4 := by rw [fk_c (k := 32) FKc (by decide)]; exact (hQ.1 4 (by decide)).symm
        have kp := k134
        rw [er0, er1, er2, er3, er4, eq3001, eq3002, eq3003, eq3004] at kp
        have hqp := pk_q k126 k120 k121 k122 k123 kp
        rw [← show c129 47 = c116 47 from g132 47 (by decide)] at hqp
        have q3 : tqP s128 p115 c129 := tqP_pk hQ.2.2.1 FKc FKr FFc (by decide) k120 k121 k123 k125 k127 kp f131 (by decide)
        clear kp k134 k120 k121 k122 k123 k124 k125 k126 k127 eq3001 eq3002 eq3003 eq3004 er0 er1 er2 er3 er4
        have q4 : tqT s128 := tqT_f (tqT_f hQ.2.2.2.1 FFc (by decide)) f131 (by decide)
        have q5 : tqB s128 p115 c129 := tqB_f hQ.2.2.2.2 FKc FKr (by decide) FFc (by decide) f131 (by decide)
        have tQ2 : tiQ s128 p115 c129 := ⟨q1, q2, q3, q4, q5⟩
        clear tc100 tc101 tc102 tc103 tc3001 tc3002 tc3003 tc3004 te100 te101 te102 te103 te3001 te3002 te3003 te3004
        refine tt_k 4 (S' := (23, [some (.inr (.inl 1000004)), some (.inr (.inl 0)), some (.inr (.inl 30)), some (.inr (.inl 47)), some (.inl (i + 9)), some (.inl r118), some (.inl r130)], [], n112, D113, s128, p115, c129)) rfl ?_
        exact ih (q + 1) (i + 9) (some (.inl r118)) (some (.inl r130)) (n112, D113, s128, p115, c129) ⟨hS128, hC129, (wp_rg hW135), FKr.1⟩ ht2 tS2 tQ2 (by omega) (by omega) (by omega) (by omega)
      by_cases h136 : (mi_and (xs (i).toNat) 15) = 5
      · have h137 := h136
        refine tt_tsw (x := (mi_and (xs (i).toNat) 15)) (off := 409) rfl (by omega) (by omega) (by rw [h136]; rfl) rfl ?_
        show tt Zi 12 0 (449, [some (.inr (.inl 1000004)), some (.inr (.inl 0)), some (.inr (.inl 30)), some (.inr (.inl 47)), some (.inl i), o5, o6], [], n, D, s, p, c) _
        refine tt_k 1 (S' := (450, [some (.inr (.inl 1000004)), some (.inr (.inl 0)), some (.inr (.inl 30)), some (.inr (.inl 47)), some (.inl i), o5, o6], [.inr (.inl 0)], n, D, s, p, c)) rfl ?_
        refine tt_cl (by omega) rfl (e_size (Zi := Zi) (q := q) (n := n) (D := D) (s := s) (p := p) (c := c) (by omega) hz (by omega) hD hS hC (wp_rg hW) ) ?_
        rintro _ ⟨n138, D139, s140, p141, c142⟩ ⟨r144, rfl, b145, hY143, k146⟩
        have hS140 : bS s140 := hY143.1
        have hC142 : bC D139 c142 := hY143.2.1
        have hW141 : wp _ _ n138 D139 p141 s140 := hY143.2.2.1
        have FKc : fk p c n138 p141 c142 [] := hY143.2.2.2.1
        have FFc : fr s s140 [] := hY143.2.2.2.2
        replace k146 : r144 = s 401 := k146
        show tt Zi 12 0 (453, [some (.inr (.inl 1000004)), some (.inr (.inl 0)), some (.inr (.inl 30)), some (.inr (.inl 47)), some (.inl i), o5, o6], [.inl r144], n138, D139, s140, p141, c142) _
        have tc100 : s140 100 = (s 100) := hW141.gz 100 rfl
        have tc101 : s140 101 = (s 101) := hW141.gz 101 rfl
        have tc102 : s140 102 = (s 102) := hW141.gz 102 rfl
        have tc103 : s140 103 = (s 103) := hW141.gz 103 rfl
        have tc3001 : s140 3001 = (s 3001) := hW141.gz 3001 rfl
        have tc3002 : s140 3002 = (s 3002) := hW141.gz 3002 rfl
        have tc3003 : s140 3003 = (s 3003) := hW141.gz 3003 rfl
        have tc3004 : s140 3004 = (s 3004) := hW141.gz 3004 rfl
        refine tt_k 2 (S' := (455, [some (.inr (.inl 1000004)), some (.inr (.inl 0)), some (.inr (.inl 30)), some (.inr (.inl 47)), some (.inl i), o5, o6], [.inr (.inl 30)], n138, D139, s140, p141, c142)) rfl ?_
        refine tt_cl (by omega) rfl (k_size (Zi := Zi) (D := D139) (s := s140) (p := p141) (c := c142) (by omega) hS140 hC142 ) ?_
        rintro _ _ ⟨s147, r148, rfl, rfl, hS147, f149, b150, k151, k152⟩
        have hW153 := wp_rf f149 (by decide) hW141
        show tt Zi 12 0 (458, [some (.inr (.inl 1000004)), some (.inr (.inl 0)), some (.inr (.inl 30)), some (.inr (.inl 47)), some (.inl i), o5, o6], [.inl r148], n138, D139, s147, p141, c142) _
        have te100 : s147 100 = (s140 100) := f149 100 (by decide)
        have te101 : s147 101 = (s140 101) := f149 101 (by decide)
        have te102 : s147 102 = (s140 102) := f149 102 (by decide)
        have te103 : s147 103 = (s140 103) := f149 103 (by decide)
        have te3001 : s147 3001 = (s140 3001) := f149 3001 (by decide)
        have te3002 : s147 3002 = (s140 3002) := f149 3002 (by decide)
        have te3003 : s147 3003 = (s140 3003) := f149 3003 (by decide)
        have te3004 : s147 3004 = (s140 3004) := f149 3004 (by decide)
        have ht2 : tie s147 := ⟨te100.trans (tc100.trans (ht.1.trans (tc3001.symm.trans te3001.symm))), te101.trans (tc101.trans (ht.2.1.trans (tc3002.symm.trans te3002.symm))), te102.trans (tc102.trans (ht.2.2.1.trans (tc3003.symm.trans te3003.symm))), te103.trans (tc103.trans (ht.2.2.2.trans (tc3004.symm.trans te3004.symm)))⟩
        have FKr := fk_rf (c := c142) (K := []) FKc.1
        have tS2 : tiS s147 p141 c142 := tiS_fk (tiS_fk ⟨E, hcE, hrE⟩ FKc (by decide) tc100 tc101 tc102) FKr (by decide) te100 te101 te102
        have q1 : tqC c142 := tqC_f hQ.1 FKc FKr (by decide)
        have q2 : tqW s147 := tqW_f (tqW_f hQ.2.1 FFc (by decide)) f149 (by decide)
        have q3 : tqP s147 p141 c142 := tqP_f hQ.2.2.1 FKc FKr (by decide) FFc (by decide) f149 (by decide)
        have q4 : tqT s147 := tqT_f (tqT_f hQ.2.2.2.1 FFc (by decide)) f149 (by decide)
        have q5 : tqB s147 p141 c142 := tqB_f hQ.2.2.2.2 FKc FKr (by decide) FFc (by decide) f149 (by decide)
        have hqs : r144 = r148 := sz_q hQ.2.2.1 FFc (by decide) k146 k151
        have tQ2 : tiQ s147 p141 c142 := ⟨q1, q2, q3, q4, q5⟩
        clear tc100 tc101 tc102 tc103 tc3001 tc3002 tc3003 tc3004 te100 te101 te102 te103 te3001 te3002 te3003 te3004
        refine tt_k 4 (S' := (23, [some (.inr (.inl 1000004)), some (.inr (.inl 0)), some (.inr (.inl 30)), some (.inr (.inl 47)), some (.inl (i + 9)), o5, o6], [], n138, D139, s147, p141, c142)) rfl ?_
        exact ih (q + 1) (i + 9) (o5) (o6) (n138, D139, s147, p141, c142) ⟨hS147, hC142, (wp_rg hW153), FKr.1⟩ ht2 tS2 tQ2 (by omega) (by omega) (by omega) (by omega)
      by_cases h154 : (mi_and (xs (i).toNat) 15) = 6
      · have h155 := h154
        refine tt_tsw (x := (mi_and (xs (i).toNat) 15)) (off := 422) rfl (by omega) (by omega) (by rw [h154]; rfl) rfl ?_
        show tt Zi 12 0 (462, [some (.inr (.inl 1000004)), some (.inr (.inl 0)), some (.inr (.inl 30)), some (.inr (.inl 47)), some (.inl i), o5, o6], [], n, D, s, p, c) _
        refine tt_k 5 (S' := (468, [some (.inr (.inl 1000004)), some (.inr (.inl 0)), some (.inr (.inl 30)), some (.inr (.inl 47)), some (.inl i), o5, o6], [.inl (i + 1), .inr (.inl 1000004), .inr (.inl 0)], n, D, s, p, c)) rfl ?_
        refine tt_stat (j := 4) (i := (i + 1)) rfl hs (by omega) ?_
        show tt Zi 12 0 (469, [some (.inr (.inl 1000004)), some (.inr (.inl 0)), some (.inr (.inl 30)), some (.inr (.inl 47)), some (.inl i), o5, o6], [.inl ((xs ((i + 1)).toNat)), .inr (.inl 0)], n, D, s, p, c) _
        have b156 := hxs ((i + 1)).toNat
        refine tt_k 1 (S' := (470, [some (.inr (.inl 1000004)), some (.inr (.inl 0)), some (.inr (.inl 30)), some (.inr (.inl 47)), some (.inl i), o5, o6], [.inr (.inl 47), .inl ((xs ((i + 1)).toNat)), .inr (.inl 0)], n, D, s, p, c)) rfl ?_
        refine tt_cl (by omega) rfl (h_out (Zi := Zi) (q := q) (n := n) (D := D) (s := s) (p := p) (c := c) (by omega) hz (by omega) hD hS hC (wp_rg hW) ((xs ((i + 1)).toNat)) (by omega)) ?_
        rintro _ ⟨n157, D158, s159, p160, c161⟩ ⟨r163, rfl, b164, hY162, k165, k166⟩
        have hS159 : bS s159 := hY162.1
        have hC161 : bC D158 c161 := hY162.2.1
        have hW160 : wp _ _ n157 D158 p160 s159 := hY162.2.2.1
        have FKc : fk p c n157 p160 c161 [47] := hY162.2.2.2.1
        have FFc : fr s s159 [800, 801, 802, 803, 804, 805, 806, 807, 808, 809, 902, 1705, 1706, 2001, 2002, 2003, 2004, 2005, 2006, 2106, 2107, 2108, 2109, 2110, 2111, 2112, 2113, 2114, 2115, 2116, 2500, 2501, 2502, 2503, 2700, 2701, 2702, 2703] := hY162.2.2.2.2
        replace k165 : r163 = 0 → (0 ≤ ((xs ((i + 1)).toNat)) ∧ ((xs ((i + 1)).toNat)) < s 401) ∧ c161 47 0 = mi_and (c (p 400) ((xs ((i + 1)).toNat)).toNat) 255 := k165
        replace k166 : r163 ≠ 0 → r163 = 1 ∧ ¬ (0 ≤ ((xs ((i + 1)).toNat)) ∧ ((xs ((i + 1)).toNat)) < s 401) := k166
        show tt Zi 12 0 (473, [some (.inr (.inl 1000004)), some (.inr (.inl 0)), some (.inr (.inl 30)), some (.inr (.inl 47)), some (.inl i), o5, o6], [.inl r163], n157, D158, s159, p160, c161) _
        have tc100 : s159 100 = (s 100) := hW160.gz 100 rfl
        have tc101 : s159 101 = (s 101) := hW160.gz 101 rfl
        have tc102 : s159 102 = (s 102) := hW160.gz 102 rfl
        have tc103 : s159 103 = (s 103) := hW160.gz 103 rfl
        have tc3001 : s159 3001 = (s 3001) := hW160.gz 3001 rfl
        have tc3002 : s159 3002 = (s 3002) := hW160.gz 3002 rfl
        have tc3003 : s159 3003 = (s 3003) := hW160.gz 3003 rfl
        have tc3004 : s159 3004 = (s 3004) := hW160.gz 3004 rfl
        refine tt_k 6 (S' := (481, [some (.inr (.inl 1000004)), some (.inr (.inl 0)), some (.inr (.inl 30)), some (.inr (.inl 47)), some (.inl i), some (.inl r163), o6], [.inl (i + 1), .inr (.inl 1000004), .inr (.inl 30)], n157, D158, s159, p160, c161)) rfl ?_
        refine tt_stat (j := 4) (i := (i + 1)) rfl hs (by omega) ?_
        show tt Zi 12 0 (482, [some (.inr (.inl 1000004)), some (.inr (.inl 0)), some (.inr (.inl 30)), some (.inr (.inl 47)), some (.inl i), some (.inl r163), o6], [.inl ((xs ((i + 1)).toNat)), .inr (.inl 30)], n157, D158, s159, p160, c161) _
        refine tt_cl (by omega) rfl (k_out3 (Zi := Zi) (D := D158) (s := s159) (p := p160) (c := c161) (by omega) hS159 hC161 ((xs ((i + 1)).toNat)) (by omega)) ?_
        rintro _ _ ⟨s167, r168, rfl, rfl, hS167, f169, b170, k171, k172⟩
        have hW173 := wp_rf f169 (by decide) hW160
        show tt Zi 12 0 (485, [some (.inr (.inl 1000004)), some (.inr (.inl 0)), some (.inr (.inl 30)), some (.inr (.inl 47)), some (.inl i), some (.inl r163), o6], [.inl r168], n157, D158, s167, p160, c161) _
        have te100 : s167 100 = (s159 100) := f169 100 (by decide)
        have te101 : s167 101 = (s159 101) := f169 101 (by decide)
        have te102 : s167 102 = (s159 102) := f169 102 (by decide)
        have te103 : s167 103 = (s159 103) := f169 103 (by decide)
        have te3001 : s167 3001 = (s159 3001) := f169 3001 (by decide)
        have te3002 : s167 3002 = (s159 3002) := f169 3002 (by decide)
        have te3003 : s167 3003 = (s159 3003) := f169 3003 (by decide)
        have te3004 : s167 3004 = (s159 3004) := f169 3004 (by decide)
        have ht2 : tie s167 := ⟨te100.trans (tc100.trans (ht.1.trans (tc3001.symm.trans te3001.symm))), te101.trans (tc101.trans (ht.2.1.trans (tc3002.symm.trans te3002.symm))), te102.trans (tc102.trans (ht.2.2.1.trans (tc3003.symm.trans te3003.symm))), te103.trans (tc103.trans (ht.2.2.2.trans (tc3004.symm.trans te3004.symm)))⟩
        have FKr := fk_rf (c := c161) (K := []) FKc.1
        have tS2 : tiS s167 p160 c161 := tiS_fk (tiS_fk ⟨E, hcE, hrE⟩ FKc (by decide) tc100 tc101 tc102) FKr (by decide) te100 te101 te102
        have q1 : tqC c161 := tqC_f hQ.1 FKc FKr (by decide)
        have q2 : tqW s167 := tqW_f (tqW_f hQ.2.1 FFc (by decide)) f169 (by decide)
        have q3 : tqP s167 p160 c161 := tqP_f hQ.2.2.1 FKc FKr (by decide) FFc (by decide) f169 (by decide)
        have q4 : tqT s167 := tqT_f (tqT_f hQ.2.2.2.1 FFc (by decide)) f169 (by decide)
        have q5 : tqB s167 p160 c161 := tqB_f hQ.2.2.2.2 FKc FKr (by decide) FFc (by decide) f169 (by decide)
        have hqo := ou_q hQ.2.2.1 FKc (by decide) FFc (by decide) k165 k166 k171 k172
        have tQ2 : tiQ s167 p160 c161 := ⟨q1, q2, q3, q4, q5⟩
        clear tc100 tc101 tc102 tc103 tc3001 tc3002 tc3003 tc3004 te100 te101 te102 te103 te3001 te3002 te3003 te3004
        refine tt_k 4 (S' := (23, [some (.inr (.inl 1000004)), some (.inr (.inl 0)), some (.inr (.inl 30)), some (.inr (.inl 47)), some (.inl (i + 9)), some (.inl r163), some (.inl r168)], [], n157, D158, s167, p160, c161)) rfl ?_
        exact ih (q + 1) (i + 9) (some (.inl r163)) (some (.inl r168)) (n157, D158, s167, p160, c161) ⟨hS167, hC161, (wp_rg hW173), FKr.1⟩ ht2 tS2 tQ2 (by omega) (by omega) (by omega) (by omega)
      by_cases h174 : (mi_and (xs (i).toNat) 15) = 7
      · have h175 := h174
        refine tt_tsw (x := (mi_and (xs (i).toNat) 15)) (off := 450) rfl (by omega) (by omega) (by rw [h174]; rfl) rfl ?_
        show tt Zi 12 0 (490, [some (.inr (.inl 1000004)), some (.inr (.inl 0)), some (.inr (.inl 30)), some (.inr (.inl 47)), some (.inl i), o5, o6], [], n, D, s, p, c) _
        refine tt_k 5 (S' := (496, [some (.inr (.inl 1000004)), some (.inr (.inl 0)), some (.inr (.inl 30)), some (.inr (.inl 47)), some (.inl i), o5, o6], [.inl (i + 1), .inr (.inl 1000004), .inr (.inl 0)], n, D, s, p, c)) rfl ?_
        refine tt_stat (j := 4) (i := (i + 1)) rfl hs (by omega) ?_
        show tt Zi 12 0 (497, [some (.inr (.inl 1000004)), some (.inr (.inl 0)), some (.inr (.inl 30)), some (.inr (.inl 47)), some (.inl i), o5, o6], [.inl ((xs ((i + 1)).toNat)), .inr (.inl 0)], n, D, s, p, c) _
        have b176 := hxs ((i + 1)).toNat
        refine tt_k 4 (S' := (502, [some (.inr (.inl 1000004)), some (.inr (.inl 0)), some (.inr (.inl 30)), some (.inr (.inl 47)), some (.inl i), o5, o6], [.inl (i + 2), .inr (.inl 1000004), .inl ((xs ((i + 1)).toNat)), .inr (.inl 0)], n, D, s, p, c)) rfl ?_
        refine tt_stat (j := 4) (i := (i + 2)) rfl hs (by omega) ?_
        show tt Zi 12 0 (503, [some (.inr (.inl 1000004)), some (.inr (.inl 0)), some (.inr (.inl 30)), some (.inr (.inl 47)), some (.inl i), o5, o6], [.inl ((xs ((i + 2)).toNat)), .inl ((xs ((i + 1)).toNat)), .inr (.inl 0)], n, D, s, p, c) _
        have b177 := hxs ((i + 2)).toNat
        refine tt_k 4 (S' := (508, [some (.inr (.inl 1000004)), some (.inr (.inl 0)), some (.inr (.inl 30)), some (.inr (.inl 47)), some (.inl i), o5, o6], [.inl (i + 3), .inr (.inl 1000004), .inl ((xs ((i + 2)).toNat)), .inl ((xs ((i + 1)).toNat)), .inr (.inl 0)], n, D, s, p, c)) rfl ?_
        refine tt_stat (j := 4) (i := (i + 3)) rfl hs (by omega) ?_
        show tt Zi 12 0 (509, [some (.inr (.inl 1000004)), some (.inr (.inl 0)), some (.inr (.inl 30)), some (.inr (.inl 47)), some (.inl i), o5, o6], [.inl ((xs ((i + 3)).toNat)), .inl ((xs ((i + 2)).toNat)), .inl ((xs ((i + 1)).toNat)), .inr (.inl 0)], n, D, s, p, c) _
        have b178 := hxs ((i + 3)).toNat
        refine tt_k 4 (S' := (514, [some (.inr (.inl 1000004)), some (.inr (.inl 0)), some (.inr (.inl 30)), some (.inr (.inl 47)), some (.inl i), o5, o6], [.inl (i + 4), .inr (.inl 1000004), .inl ((xs ((i + 3)).toNat)), .inl ((xs ((i + 2)).toNat)), .inl ((xs ((i + 1)).toNat)), .inr (.inl 0)], n, D, s, p, c)) rfl ?_
        refine tt_stat (j := 4) (i := (i + 4)) rfl hs (by omega) ?_
        show tt Zi 12 0 (515, [some (.inr (.inl 1000004)), some (.inr (.inl 0)), some (.inr (.inl 30)), some (.inr (.inl 47)), some (.inl i), o5, o6], [.inl ((xs ((i + 4)).toNat)), .inl ((xs ((i + 3)).toNat)), .inl ((xs ((i + 2)).toNat)), .inl ((xs ((i + 1)).toNat)), .inr (.inl 0)], n, D, s, p, c) _
        have b179 := hxs ((i + 4)).toNat
        refine tt_k 4 (S' := (520, [some (.inr (.inl 1000004)), some (.inr (.inl 0)), some (.inr (.inl 30)), some (.inr (.inl 47)), some (.inl i), o5, o6], [.inl (i + 5), .inr (.inl 1000004), .inl ((xs ((i + 4)).toNat)), .inl ((xs ((i + 3)).toNat)), .inl ((xs ((i + 2)).toNat)), .inl ((xs ((i + 1)).toNat)), .inr (.inl 0)], n, D, s, p, c)) rfl ?_
        refine tt_stat (j := 4) (i := (i + 5)) rfl hs (by omega) ?_
        show tt Zi 12 0 (521, [some (.inr (.inl 1000004)), some (.inr (.inl 0)), some (.inr (.inl 30)), some (.inr (.inl 47)), some (.inl i), o5, o6], [.inl ((xs ((i + 5)).toNat)), .inl ((xs ((i + 4)).toNat)), .inl ((xs ((i + 3)).toNat)), .inl ((xs ((i + 2)).toNat)), .inl ((xs ((i + 1)).toNat)), .inr (.inl 0)], n, D, s, p, c) _
        have b180 := hxs ((i + 5)).toNat
        refine tt_k 1 (S' := (522, [some (.inr (.inl 1000004)), some (.inr (.inl 0)), some (.inr (.inl 30)), some (.inr (.inl 47)), some (.inl i), o5, o6], [.inr (.inl 47), .inl ((xs ((i + 5)).toNat)), .inl ((xs ((i + 4)).toNat)), .inl ((xs ((i + 3)).toNat)), .inl ((xs ((i + 2)).toNat)), .inl ((xs ((i + 1)).toNat)), .inr (.inl 0)], n, D, s, p, c)) rfl ?_
        refine tt_cl (by omega) rfl (h_feed (Zi := Zi) (q := q) (n := n) (D := D) (s := s) (p := p) (c := c) (by omega) hz (by omega) hD hS hC (wp_rg hW) (c (p 600), s 601, 0, 8) ((xs ((i + 1)).toNat)) ((xs ((i + 2)).toNat)) ((xs ((i + 3)).toNat)) ((xs ((i + 4)).toNat)) ((xs ((i + 5)).toNat)) (by omega) (by omega) (by omega) (by omega) (by omega) ⟨rfl, fun _ _ => rfl⟩) ?_
        rintro _ ⟨n181, D182, s183, p184, c185⟩ ⟨r187, rfl, b188, hY186, k189, k190, k191, k192⟩
        have hS183 : bS s183 := hY186.1
        have hC185 : bC D182 c185 := hY186.2.1
        have hW184 : wp _ _ n181 D182 p184 s183 := hY186.2.2.1
        have FKc : fk p c n181 p184 c185 [47, 600] := hY186.2.2.2.1
        have FFc : fr s s183 [601, 800, 801, 802, 803, 804, 805, 806, 807, 808, 809, 902, 1705, 1706, 2001, 2002, 2003, 2004, 2005, 2006, 2106, 2107, 2108, 2109, 2110, 2111, 2112, 2113, 2114, 2115, 2116, 2500, 2501, 2502, 2503, 2700, 2701, 2702, 2703] := hY186.2.2.2.2
        replace k189 : r187 = 0 → s 601 + 20 ≤ 32768 ∧ s183 601 = s 601 + 20 ∧ c185 47 0 = s 601 + 20 := k189
        replace k190 : r187 ≠ 0 → r187 = 1 ∧ ¬ (s 601 + 20 ≤ 32768) ∧ s183 601 = s 601 := k190
        replace k191 : r187 = 0 → wrt (pTy 4 ((xs ((i + 5)).toNat)) (pTy 4 ((xs ((i + 4)).toNat)) (pTy 4 ((xs ((i + 3)).toNat)) (pTy 4 ((xs ((i + 2)).toNat)) (pTy 4 ((xs ((i + 1)).toNat)) (c (p 600), s 601, 0, 8)))))) (s183 601) (c185 (p184 600)) := k191
        replace k192 : r187 ≠ 0 → fk p c n181 p184 c185 [] := k192
        show tt Zi 12 0 (525, [some (.inr (.inl 1000004)), some (.inr (.inl 0)), some (.inr (.inl 30)), some (.inr (.inl 47)), some (.inl i), o5, o6], [.inl r187], n181, D182, s183, p184, c185) _
        have tc100 : s183 100 = (s 100) := hW184.gz 100 rfl
        have tc101 : s183 101 = (s 101) := hW184.gz 101 rfl
        have tc102 : s183 102 = (s 102) := hW184.gz 102 rfl
        have tc103 : s183 103 = (s 103) := hW184.gz 103 rfl
        have tc3001 : s183 3001 = (s 3001) := hW184.gz 3001 rfl
        have tc3002 : s183 3002 = (s 3002) := hW184.gz 3002 rfl
        have tc3003 : s183 3003 = (s 3003) := hW184.gz 3003 rfl
        have tc3004 : s183 3004 = (s 3004) := hW184.gz 3004 rfl
        refine tt_k 6 (S' := (533, [some (.inr (.inl 1000004)), some (.inr (.inl 0)), some (.inr (.inl 30)), some (.inr (.inl 47)), some (.inl i), some (.inl r187), o6], [.inl (i + 1), .inr (.inl 1000004), .inr (.inl 30)], n181, D182, s183, p184, c185)) rfl ?_
        refine tt_stat (j := 4) (i := (i + 1)) rfl hs (by omega) ?_
        show tt Zi 12 0 (534, [some (.inr (.inl 1000004)), some (.inr (.inl 0)), some (.inr (.inl 30)), some (.inr (.inl 47)), some (.inl i), some (.inl r187), o6], [.inl ((xs ((i + 1)).toNat)), .inr (.inl 30)], n181, D182, s183, p184, c185) _
        refine tt_k 4 (S' := (539, [some (.inr (.inl 1000004)), some (.inr (.inl 0)), some (.inr (.inl 30)), some (.inr (.inl 47)), some (.inl i), some (.inl r187), o6], [.inl (i + 2), .inr (.inl 1000004), .inl ((xs ((i + 1)).toNat)), .inr (.inl 30)], n181, D182, s183, p184, c185)) rfl ?_
        refine tt_stat (j := 4) (i := (i + 2)) rfl hs (by omega) ?_
        show tt Zi 12 0 (540, [some (.inr (.inl 1000004)), some (.inr (.inl 0)), some (.inr (.inl 30)), some (.inr (.inl 47)), some (.inl i), some (.inl r187), o6], [.inl ((xs ((i + 2)).toNat)), .inl ((xs ((i + 1)).toNat)), .inr (.inl 30)], n181, D182, s183, p184, c185) _
        refine tt_k 4 (S' := (545, [some (.inr (.inl 1000004)), some (.inr (.inl 0)), some (.inr (.inl 30)), some (.inr (.inl 47)), some (.inl i), some (.inl r187), o6], [.inl (i + 3), .inr (.inl 1000004), .inl ((xs ((i + 2)).toNat)), .inl ((xs ((i + 1)).toNat)), .inr (.inl 30)], n181, D182, s183, p184, c185)) rfl ?_
        refine tt_stat (j := 4) (i := (i + 3)) rfl hs (by omega) ?_
        show tt Zi 12 0 (546, [some (.inr (.inl 1000004)), some (.inr (.inl 0)), some (.inr (.inl 30)), some (.inr (.inl 47)), some (.inl i), some (.inl r187), o6], [.inl ((xs ((i + 3)).toNat)), .inl ((xs ((i + 2)).toNat)), .inl ((xs ((i + 1)).toNat)), .inr (.inl 30)], n181, D182, s183, p184, c185) _
        refine tt_k 4 (S' := (551, [some (.inr (.inl 1000004)), some (.inr (.inl 0)), some (.inr (.inl 30)), some (.inr (.inl 47)), some (.inl i), some (.inl r187), o6], [.inl (i + 4), .inr (.inl 1000004), .inl ((xs ((i + 3)).toNat)), .inl ((xs ((i + 2)).toNat)), .inl ((xs ((i + 1)).toNat)), .inr (.inl 30)], n181, D182, s183, p184, c185)) rfl ?_
        refine tt_stat (j := 4) (i := (i + 4)) rfl hs (by omega) ?_
        show tt Zi 12 0 (552, [some (.inr (.inl 1000004)), some (.inr (.inl 0)), some (.inr (.inl 30)), some (.inr (.inl 47)), some (.inl i), some (.inl r187), o6], [.inl ((xs ((i + 4)).toNat)), .inl ((xs ((i + 3)).toNat)), .inl ((xs ((i + 2)).toNat)), .inl ((xs ((i + 1)).toNat)), .inr (.inl 30)], n181, D182, s183, p184, c185) _
        refine tt_k 4 (S' := (557, [some (.inr (.inl 1000004)), some (.inr (.inl 0)), some (.inr (.inl 30)), some (.inr (.inl 47)), some (.inl i), some (.inl r187), o6], [.inl (i + 5), .inr (.inl 1000004), .inl ((xs ((i + 4)).toNat)), .inl ((xs ((i + 3)).toNat)), .inl ((xs ((i + 2)).toNat)), .inl ((xs ((i + 1)).toNat)), .inr (.inl 30)], n181, D182, s183, p184, c185)) rfl ?_
        refine tt_stat (j := 4) (i := (i + 5)) rfl hs (by omega) ?_
        show tt Zi 12 0 (558, [some (.inr (.inl 1000004)), some (.inr (.inl 0)), some (.inr (.inl 30)), some (.inr (.inl 47)), some (.inl i), some (.inl r187), o6], [.inl ((xs ((i + 5)).toNat)), .inl ((xs ((i + 4)).toNat)), .inl ((xs ((i + 3)).toNat)), .inl ((xs ((i + 2)).toNat)), .inl ((xs ((i + 1)).toNat)), .inr (.inl 30)], n181, D182, s183, p184, c185) _
        have hwt := wrt_t hQ.2.2.2.1 hQ.2.2.2.2 FKc (by decide) FFc (by decide)
        refine tt_cl (by omega) rfl (y_feed (Zi := Zi) (D := D182) (s := s183) (p := p184) (c := c185) (by omega) hS183 hC185 (c (p 600), s 601, 0, 8) ((xs ((i + 1)).toNat)) ((xs ((i + 2)).toNat)) ((xs ((i + 3)).toNat)) ((xs ((i + 4)).toNat)) ((xs ((i + 5)).toNat)) (by omega) (by omega) (by omega) (by omega) (by omega) hwt) ?_
        rintro _ _ ⟨s193, c194, r195, rfl, rfl, hS193, hC194, f196, g197, b198, k199, k200, k201, k202, k203⟩
        have hW204 := wp_rf f196 (by decide) hW184
        show tt Zi 12 0 (561, [some (.inr (.inl 1000004)), some (.inr (.inl 0)), some (.inr (.inl 30)), some (.inr (.inl 47)), some (.inl i), some (.inl r187), o6], [.inl r195], n181, D182, s193, p184, c194) _
        have te100 : s193 100 = (s183 100) := f196 100 (by decide)
        have te101 : s193 101 = (s183 101) := f196 101 (by decide)
        have te102 : s193 102 = (s183 102) := f196 102 (by decide)
        have te103 : s193 103 = (s183 103) := f196 103 (by decide)
        have te3001 : s193 3001 = (s183 3001) := f196 3001 (by decide)
        have te3002 : s193 3002 = (s183 3002) := f196 3002 (by decide)
        have te3003 : s193 3003 = (s183 3003) := f196 3003 (by decide)
        have te3004 : s193 3004 = (s183 3004) := f196 3004 (by decide)
        have ht2 : tie s193 := ⟨te100.trans (tc100.trans (ht.1.trans (tc3001.symm.trans te3001.symm))), te101.trans (tc101.trans (ht.2.1.trans (tc3002.symm.trans te3002.symm))), te102.trans (tc102.trans (ht.2.2.1.trans (tc3003.symm.trans te3003.symm))), te103.trans (tc103.trans (ht.2.2.2.trans (tc3004.symm.trans te3004.symm)))⟩
        have FKr := fk_rc FKc.1 g197 (by decide)
        have tS2 : tiS s193 p184 c194 := tiS_fk (tiS_fk ⟨E, hcE, hrE⟩ FKc (by decide) tc100 tc101 tc102) FKr (by decide) te100 te101 te102
        have q1 : tqC c194 := tqC_f hQ.1 FKc FKr (by decide)
        have q2 : tqW s193 := tqW_f (tqW_f hQ.2.1 FFc (by decide)) f196 (by decide)
        have q3 : tqP s193 p184 c194 := tqP_f hQ.2.2.1 FKc FKr (by decide) FFc (by decide) f196 (by decide)
        have hqt := fd_q hQ.2.2.2.1 k189 k190 (tqN FFc (by decide)) k199 k200 k201
        rw [← show c194 47 = c185 47 from g197 47 (by decide)] at hqt
        have q4 : tqT s193 := (f196 601 (by decide)).trans hqt.2.2
        have q5 : tqB s193 p184 c194 := tqB_fd hQ.2.2.2.2 FKr (fd_c hQ.2.2.2.1 k189 k190 (tqN FFc (by decide))) k191 k192 (fun h => (k190 h).2.2) k202 k203 f196
        clear k199 k200 k201 k202 k203 k189 k190 k191 k192
        have tQ2 : tiQ s193 p184 c194 := ⟨q1, q2, q3, q4, q5⟩
        clear tc100 tc101 tc102 tc103 tc3001 tc3002 tc3003 tc3004 te100 te101 te102 te103 te3001 te3002 te3003 te3004
        refine tt_k 4 (S' := (23, [some (.inr (.inl 1000004)), some (.inr (.inl 0)), some (.inr (.inl 30)), some (.inr (.inl 47)), some (.inl (i + 9)), some (.inl r187), some (.inl r195)], [], n181, D182, s193, p184, c194)) rfl ?_
        exact ih (q + 1) (i + 9) (some (.inl r187)) (some (.inl r195)) (n181, D182, s193, p184, c194) ⟨hS193, hC194, (wp_rg hW204), FKr.1⟩ ht2 tS2 tQ2 (by omega) (by omega) (by omega) (by omega)
      by_cases h205 : (mi_and (xs (i).toNat) 15) = 8
      · have h206 := h205
        refine tt_tsw (x := (mi_and (xs (i).toNat) 15)) (off := 526) rfl (by omega) (by omega) (by rw [h205]; rfl) rfl ?_
        show tt Zi 12 0 (566, [some (.inr (.inl 1000004)), some (.inr (.inl 0)), some (.inr (.inl 30)), some (.inr (.inl 47)), some (.inl i), o5, o6], [], n, D, s, p, c) _
        refine tt_k 5 (S' := (572, [some (.inr (.inl 1000004)), some (.inr (.inl 0)), some (.inr (.inl 30)), some (.inr (.inl 47)), some (.inl i), o5, o6], [.inl (i + 1), .inr (.inl 1000004), .inr (.inl 0)], n, D, s, p, c)) rfl ?_
        refine tt_stat (j := 4) (i := (i + 1)) rfl hs (by omega) ?_
        show tt Zi 12 0 (573, [some (.inr (.inl 1000004)), some (.inr (.inl 0)), some (.inr (.inl 30)), some (.inr (.inl 47)), some (.inl i), o5, o6], [.inl ((xs ((i + 1)).toNat)), .inr (.inl 0)], n, D, s, p, c) _
        have b207 := hxs ((i + 1)).toNat
        refine tt_cl (by omega) rfl (h_end (Zi := Zi) (q := q) (n := n) (D := D) (s := s) (p := p) (c := c) (by omega) hz (by omega) hD hS hC (wp_rg hW) ((xs ((i + 1)).toNat)) (by omega)) ?_
        rintro _ ⟨n208, D209, s210, p211, c212⟩ ⟨r214, rfl, b215, hY213, k216, k217⟩
        have hS210 : bS s210 := hY213.1
        have hC212 : bC D209 c212 := hY213.2.1
        have hW211 : wp _ _ n208 D209 p211 s210 := hY213.2.2.1
        have FKc : fk p c n208 p211 c212 [] := hY213.2.2.2.1
        have FFc : fr s s210 [601, 800, 801, 802, 803, 804, 805, 806, 807, 808, 809, 902, 1705, 1706, 2001, 2002, 2003, 2004, 2005, 2006, 2106, 2107, 2108, 2109, 2110, 2111, 2112, 2113, 2114, 2115, 2116, 2500, 2501, 2502, 2503, 2700, 2701, 2702, 2703] := hY213.2.2.2.2
        replace k216 : r214 = 0 → (0 ≤ ((xs ((i + 1)).toNat)) ∧ ((xs ((i + 1)).toNat)) ≤ s 601) ∧ s210 601 = ((xs ((i + 1)).toNat)) := k216
        replace k217 : r214 ≠ 0 → r214 = 1 ∧ ¬ (0 ≤ ((xs ((i + 1)).toNat)) ∧ ((xs ((i + 1)).toNat)) ≤ s 601) ∧ s210 601 = s 601 := k217
        show tt Zi 12 0 (576, [some (.inr (.inl 1000004)), some (.inr (.inl 0)), some (.inr (.inl 30)), some (.inr (.inl 47)), some (.inl i), o5, o6], [.inl r214], n208, D209, s210, p211, c212) _
        have tc100 : s210 100 = (s 100) := hW211.gz 100 rfl
        have tc101 : s210 101 = (s 101) := hW211.gz 101 rfl
        have tc102 : s210 102 = (s 102) := hW211.gz 102 rfl
        have tc103 : s210 103 = (s 103) := hW211.gz 103 rfl
        have tc3001 : s210 3001 = (s 3001) := hW211.gz 3001 rfl
        have tc3002 : s210 3002 = (s 3002) := hW211.gz 3002 rfl
        have tc3003 : s210 3003 = (s 3003) := hW211.gz 3003 rfl
        have tc3004 : s210 3004 = (s 3004) := hW211.gz 3004 rfl
        refine tt_k 6 (S' := (584, [some (.inr (.inl 1000004)), some (.inr (.inl 0)), some (.inr (.inl 30)), some (.inr (.inl 47)), some (.inl i), some (.inl r214), o6], [.inl (i + 1), .inr (.inl 1000004), .inr (.inl 30)], n208, D209, s210, p211, c212)) rfl ?_
        refine tt_stat (j := 4) (i := (i + 1)) rfl hs (by omega) ?_
        show tt Zi 12 0 (585, [some (.inr (.inl 1000004)), some (.inr (.inl 0)), some (.inr (.inl 30)), some (.inr (.inl 47)), some (.inl i), some (.inl r214), o6], [.inl ((xs ((i + 1)).toNat)), .inr (.inl 30)], n208, D209, s210, p211, c212) _
        refine tt_cl (by omega) rfl (k_end (Zi := Zi) (D := D209) (s := s210) (p := p211) (c := c212) (by omega) hS210 hC212 ((xs ((i + 1)).toNat)) (by omega)) ?_
        rintro _ _ ⟨s218, rfl, rfl, hS218, f219, k220, k221⟩
        have hW222 := wp_rf f219 (by decide) hW211
        show tt Zi 12 0 (588, [some (.inr (.inl 1000004)), some (.inr (.inl 0)), some (.inr (.inl 30)), some (.inr (.inl 47)), some (.inl i), some (.inl r214), o6], [], n208, D209, s218, p211, c212) _
        have te100 : s218 100 = (s210 100) := f219 100 (by decide)
        have te101 : s218 101 = (s210 101) := f219 101 (by decide)
        have te102 : s218 102 = (s210 102) := f219 102 (by decide)
        have te103 : s218 103 = (s210 103) := f219 103 (by decide)
        have te3001 : s218 3001 = (s210 3001) := f219 3001 (by decide)
        have te3002 : s218 3002 = (s210 3002) := f219 3002 (by decide)
        have te3003 : s218 3003 = (s210 3003) := f219 3003 (by decide)
        have te3004 : s218 3004 = (s210 3004) := f219 3004 (by decide)
        have ht2 : tie s218 := ⟨te100.trans (tc100.trans (ht.1.trans (tc3001.symm.trans te3001.symm))), te101.trans (tc101.trans (ht.2.1.trans (tc3002.symm.trans te3002.symm))), te102.trans (tc102.trans (ht.2.2.1.trans (tc3003.symm.trans te3003.symm))), te103.trans (tc103.trans (ht.2.2.2.trans (tc3004.symm.trans te3004.symm)))⟩
        have FKr := fk_rf (c := c212) (K := []) FKc.1
        have tS2 : tiS s218 p211 c212 := tiS_fk (tiS_fk ⟨E, hcE, hrE⟩ FKc (by decide) tc100 tc101 tc102) FKr (by decide) te100 te101 te102
        have q1 : tqC c212 := tqC_f hQ.1 FKc FKr (by decide)
        have q2 : tqW s218 := tqW_f (tqW_f hQ.2.1 FFc (by decide)) f219 (by decide)
        have q3 : tqP s218 p211 c212 := tqP_f hQ.2.2.1 FKc FKr (by decide) FFc (by decide) f219 (by decide)
        have hqt := en_q hQ.2.2.2.1 k216 k217 (tqN FFc (by decide)) k220 k221
        have q4 : tqT s218 := (f219 601 (by decide)).trans hqt.2
        have q5 : tqB s218 p211 c212 := tqB_en hQ.2.2.2.2 FKc FKr (by decide) k216 k217 f219
        have tQ2 : tiQ s218 p211 c212 := ⟨q1, q2, q3, q4, q5⟩
        clear tc100 tc101 tc102 tc103 tc3001 tc3002 tc3003 tc3004 te100 te101 te102 te103 te3001 te3002 te3003 te3004
        refine tt_k 3 (S' := (23, [some (.inr (.inl 1000004)), some (.inr (.inl 0)), some (.inr (.inl 30)), some (.inr (.inl 47)), some (.inl (i + 9)), some (.inl r214), o6], [], n208, D209, s218, p211, c212)) rfl ?_
        exact ih (q + 1) (i + 9) (some (.inl r214)) (o6) (n208, D209, s218, p211, c212) ⟨hS218, hC212, (wp_rg hW222), FKr.1⟩ ht2 tS2 tQ2 (by omega) (by omega) (by omega) (by omega)
      by_cases h223 : (mi_and (xs (i).toNat) 15) = 9
      · have h224 := h223
        refine tt_tsw (x := (mi_and (xs (i).toNat) 15)) (off := 551) rfl (by omega) (by omega) (by rw [h223]; rfl) rfl ?_
        show tt Zi 12 0 (591, [some (.inr (.inl 1000004)), some (.inr (.inl 0)), some (.inr (.inl 30)), some (.inr (.inl 47)), some (.inl i), o5, o6], [], n, D, s, p, c) _
        refine tt_k 5 (S' := (597, [some (.inr (.inl 1000004)), some (.inr (.inl 0)), some (.inr (.inl 30)), some (.inr (.inl 47)), some (.inl i), o5, o6], [.inl (i + 1), .inr (.inl 1000004), .inr (.inl 0)], n, D, s, p, c)) rfl ?_
        refine tt_stat (j := 4) (i := (i + 1)) rfl hs (by omega) ?_
        show tt Zi 12 0 (598, [some (.inr (.inl 1000004)), some (.inr (.inl 0)), some (.inr (.inl 30)), some (.inr (.inl 47)), some (.inl i), o5, o6], [.inl ((xs ((i + 1)).toNat)), .inr (.inl 0)], n, D, s, p, c) _
        have b225 := hxs ((i + 1)).toNat
        refine tt_k 4 (S' := (603, [some (.inr (.inl 1000004)), some (.inr (.inl 0)), some (.inr (.inl 30)), some (.inr (.inl 47)), some (.inl i), o5, o6], [.inl (i + 2), .inr (.inl 1000004), .inl ((xs ((i + 1)).toNat)), .inr (.inl 0)], n, D, s, p, c)) rfl ?_
        refine tt_stat (j := 4) (i := (i + 2)) rfl hs (by omega) ?_
        show tt Zi 12 0 (604, [some (.inr (.inl 1000004)), some (.inr (.inl 0)), some (.inr (.inl 30)), some (.inr (.inl 47)), some (.inl i), o5, o6], [.inl ((xs ((i + 2)).toNat)), .inl ((xs ((i + 1)).toNat)), .inr (.inl 0)], n, D, s, p, c) _
        have b226 := hxs ((i + 2)).toNat
        refine tt_k 1 (S' := (605, [some (.inr (.inl 1000004)), some (.inr (.inl 0)), some (.inr (.inl 30)), some (.inr (.inl 47)), some (.inl i), o5, o6], [.inr (.inl 47), .inl ((xs ((i + 2)).toNat)), .inl ((xs ((i + 1)).toNat)), .inr (.inl 0)], n, D, s, p, c)) rfl ?_
        refine tt_cl (by omega) rfl (h_change (Zi := Zi) (q := q) (n := n) (D := D) (s := s) (p := p) (c := c) (by omega) hz (by omega) hD hS hC (wp_rg hW) ((xs ((i + 1)).toNat)) ((xs ((i + 2)).toNat)) (by omega) (by omega)) ?_
        rintro _ ⟨n227, D228, s229, p230, c231⟩ ⟨r233, rfl, b234, hY232, k235, k236, k237, k238⟩
        have hS229 : bS s229 := hY232.1
        have hC231 : bC D228 c231 := hY232.2.1
        have hW230 : wp _ _ n227 D228 p230 s229 := hY232.2.2.1
        have FKc : fk p c n227 p230 c231 [47, 600] := hY232.2.2.2.1
        have FFc : fr s s229 [800, 801, 802, 803, 804, 805, 806, 807, 808, 809, 902, 1705, 1706, 2001, 2002, 2003, 2004, 2005, 2006, 2106, 2107, 2108, 2109, 2110, 2111, 2112, 2113, 2114, 2115, 2116, 2500, 2501, 2502, 2503, 2700, 2701, 2702, 2703] := hY232.2.2.2.2
        replace k235 : chP r233 ((xs ((i + 1)).toNat)) ((xs ((i + 2)).toNat)) (s 601) := k235
        replace k236 : r233 = 0 → c231 47 0 = (mi_xor (mi_and (c (p 600) ((xs ((i + 1)).toNat)).toNat) 255) ((xs ((i + 2)).toNat))) := k236
        replace k237 : r233 = 0 → c231 (p230 600) = ua (c (p 600)) ((xs ((i + 1)).toNat)).toNat (nb (mi_xor (mi_and (c (p 600) ((xs ((i + 1)).toNat)).toNat) 255) ((xs ((i + 2)).toNat)))) := k237
        replace k238 : r233 ≠ 0 → fk p c n227 p230 c231 [] := k238
        show tt Zi 12 0 (608, [some (.inr (.inl 1000004)), some (.inr (.inl 0)), some (.inr (.inl 30)), some (.inr (.inl 47)), some (.inl i), o5, o6], [.inl r233], n227, D228, s229, p230, c231) _
        have tc100 : s229 100 = (s 100) := hW230.gz 100 rfl
        have tc101 : s229 101 = (s 101) := hW230.gz 101 rfl
        have tc102 : s229 102 = (s 102) := hW230.gz 102 rfl
        have tc103 : s229 103 = (s 103) := hW230.gz 103 rfl
        have tc3001 : s229 3001 = (s 3001) := hW230.gz 3001 rfl
        have tc3002 : s229 3002 = (s 3002) := hW230.gz 3002 rfl
        have tc3003 : s229 3003 = (s 3003) := hW230.gz 3003 rfl
        have tc3004 : s229 3004 = (s 3004) := hW230.gz 3004 rfl
        refine tt_k 6 (S' := (616, [some (.inr (.inl 1000004)), some (.inr (.inl 0)), some (.inr (.inl 30)), some (.inr (.inl 47)), some (.inl i), some (.inl r233), o6], [.inl (i + 1), .inr (.inl 1000004), .inr (.inl 30)], n227, D228, s229, p230, c231)) rfl ?_
        refine tt_stat (j := 4) (i := (i + 1)) rfl hs (by omega) ?_
        show tt Zi 12 0 (617, [some (.inr (.inl 1000004)), some (.inr (.inl 0)), some (.inr (.inl 30)), some (.inr (.inl 47)), some (.inl i), some (.inl r233), o6], [.inl ((xs ((i + 1)).toNat)), .inr (.inl 30)], n227, D228, s229, p230, c231) _
        refine tt_k 4 (S' := (622, [some (.inr (.inl 1000004)), some (.inr (.inl 0)), some (.inr (.inl 30)), some (.inr (.inl 47)), some (.inl i), some (.inl r233), o6], [.inl (i + 2), .inr (.inl 1000004), .inl ((xs ((i + 1)).toNat)), .inr (.inl 30)], n227, D228, s229, p230, c231)) rfl ?_
        refine tt_stat (j := 4) (i := (i + 2)) rfl hs (by omega) ?_
        show tt Zi 12 0 (623, [some (.inr (.inl 1000004)), some (.inr (.inl 0)), some (.inr (.inl 30)), some (.inr (.inl 47)), some (.inl i), some (.inl r233), o6], [.inl ((xs ((i + 2)).toNat)), .inl ((xs ((i + 1)).toNat)), .inr (.inl 30)], n227, D228, s229, p230, c231) _
        refine tt_cl (by omega) rfl (y_change (Zi := Zi) (D := D228) (s := s229) (p := p230) (c := c231) (by omega) hS229 hC231 ((xs ((i + 1)).toNat)) ((xs ((i + 2)).toNat)) (by omega) (by omega)) ?_
        rintro _ _ ⟨s239, c240, r241, rfl, rfl, hS239, hC240, f242, g243, b244, k245, k246, k247⟩
        have hW248 := wp_rf f242 (by decide) hW230
        show tt Zi 12 0 (626, [some (.inr (.inl 1000004)), some (.inr (.inl 0)), some (.inr (.inl 30)), some (.inr (.inl 47)), some (.inl i), some (.inl r233), o6], [.inl r241], n227, D228, s239, p230, c240) _
        have te100 : s239 100 = (s229 100) := f242 100 (by decide)
        have te101 : s239 101 = (s229 101) := f242 101 (by decide)
        have te102 : s239 102 = (s229 102) := f242 102 (by decide)
        have te103 : s239 103 = (s229 103) := f242 103 (by decide)
        have te3001 : s239 3001 = (s229 3001) := f242 3001 (by decide)
        have te3002 : s239 3002 = (s229 3002) := f242 3002 (by decide)
        have te3003 : s239 3003 = (s229 3003) := f242 3003 (by decide)
        have te3004 : s239 3004 = (s229 3004) := f242 3004 (by decide)
        have ht2 : tie s239 := ⟨te100.trans (tc100.trans (ht.1.trans (tc3001.symm.trans te3001.symm))), te101.trans (tc101.trans (ht.2.1.trans (tc3002.symm.trans te3002.symm))), te102.trans (tc102.trans (ht.2.2.1.trans (tc3003.symm.trans te3003.symm))), te103.trans (tc103.trans (ht.2.2.2.trans (tc3004.symm.trans te3004.symm)))⟩
        have FKr := fk_rc FKc.1 g243 (by decide)
        have tS2 : tiS s239 p230 c240 := tiS_fk (tiS_fk ⟨E, hcE, hrE⟩ FKc (by decide) tc100 tc101 tc102) FKr (by decide) te100 te101 te102
        have q1 : tqC c240 := tqC_f hQ.1 FKc FKr (by decide)
        have q2 : tqW s239 := tqW_f (tqW_f hQ.2.1 FFc (by decide)) f242 (by decide)
        have q3 : tqP s239 p230 c240 := tqP_f hQ.2.2.1 FKc FKr (by decide) FFc (by decide) f242 (by decide)
        have q4 : tqT s239 := tqT_f (tqT_f hQ.2.2.2.1 FFc (by decide)) f242 (by decide)
        have hqt := ch_q hQ.2.2.2.1 k235 (tqN FFc (by decide)) k245
        have q5 : tqB s239 p230 c240 := tqB_ch hQ.2.2.2.2 hQ.2.2.2.1 FKc FKr FFc (by decide) k235 k237 k238 k247 f242
        have hqv := ch_w hQ.2.2.2.2 hQ.2.2.2.1 hC hW FKc (by decide) (tqN FFc (by decide)) k235 k236 k246
        rw [← show c240 47 = c231 47 from g243 47 (by decide)] at hqv
        clear k245 k246 k247 k235 k236 k237 k238
        have tQ2 : tiQ s239 p230 c240 := ⟨q1, q2, q3, q4, q5⟩
        clear tc100 tc101 tc102 tc103 tc3001 tc3002 tc3003 tc3004 te100 te101 te102 te103 te3001 te3002 te3003 te3004
        refine tt_k 2 (S' := (629, [some (.inr (.inl 1000004)), some (.inr (.inl 0)), some (.inr (.inl 30)), some (.inr (.inl 47)), some (.inl i), some (.inl r233), some (.inl r241)], [.inr (.inl 30)], n227, D228, s239, p230, c240)) rfl ?_
        refine tt_cl (by omega) rfl (k_thrown (Zi := Zi) (D := D228) (s := s239) (p := p230) (c := c240) (by omega) hS239 hC240 ) ?_
        rintro _ _ ⟨r249, rfl, rfl, b250, k251⟩
        show tt Zi 12 0 (632, [some (.inr (.inl 1000004)), some (.inr (.inl 0)), some (.inr (.inl 30)), some (.inr (.inl 47)), some (.inl i), some (.inl r233), some (.inl r241)], [.inl r249], n227, D228, s239, p230, c240) _
        refine tt_k 1 (S' := (634, [some (.inr (.inl 1000004)), some (.inr (.inl 0)), some (.inr (.inl 30)), some (.inr (.inl 47)), some (.inl i), some (.inl r233), some (.inl r241)], [.inl r233, .inl r249], n227, D228, s239, p230, c240)) rfl ?_
        refine tb_eq (x := r249) (y := r233) rfl rfl (by omega) (fun h252 => ?_) (fun h252 => ?_)
        · show tt Zi 12 0 (639, [some (.inr (.inl 1000004)), some (.inr (.inl 0)), some (.inr (.inl 30)), some (.inr (.inl 47)), some (.inl i), some (.inl r233), some (.inl r241)], [], n227, D228, s239, p230, c240) _
          refine tt_k 1 (S' := (641, [some (.inr (.inl 1000004)), some (.inr (.inl 0)), some (.inr (.inl 30)), some (.inr (.inl 47)), some (.inl i), some (.inl r233), some (.inl r241)], [.inl r233], n227, D228, s239, p230, c240)) rfl ?_
          refine tz_ne (x := r233) rfl rfl (by omega) (fun h253 => ?_) (fun h253 => ?_)
          · show tt Zi 12 0 (656, [some (.inr (.inl 1000004)), some (.inr (.inl 0)), some (.inr (.inl 30)), some (.inr (.inl 47)), some (.inl i), some (.inl r233), some (.inl r241)], [], n227, D228, s239, p230, c240) _
            refine tt_k 3 (S' := (23, [some (.inr (.inl 1000004)), some (.inr (.inl 0)), some (.inr (.inl 30)), some (.inr (.inl 47)), some (.inl (i + 9)), some (.inl r233), some (.inl r241)], [], n227, D228, s239, p230, c240)) rfl ?_
            exact ih (q + 1) (i + 9) (some (.inl r233)) (some (.inl r241)) (n227, D228, s239, p230, c240) ⟨hS239, hC240, (wp_rg hW248), FKr.1⟩ ht2 tS2 tQ2 (by omega) (by omega) (by omega) (by omega)
          · show tt Zi 12 0 (644, [some (.inr (.inl 1000004)), some (.inr (.inl 0)), some (.inr (.inl 30)), some (.inr (.inl 47)), some (.inl i), some (.inl r233), some (.inl r241)], [], n227, D228, s239, p230, c240) _
            refine tt_k 2 (S' := (646, [some (.inr (.inl 1000004)), some (.inr (.inl 0)), some (.inr (.inl 30)), some (.inr (.inl 47)), some (.inl i), some (.inl r233), some (.inl r241)], [.inl 0, .inr (.inl 47)], n227, D228, s239, p230, c240)) rfl ?_
            refine tt_llb (a := 47) (i := 0) (m := 1) rfl rfl (by omega) hC240 ⟨rfl, rfl⟩ ?_
            intro v254 bv254 hvv254
            have hwv254 : c240 47 0 = v254 := hvv254
            show tt Zi 12 0 (647, [some (.inr (.inl 1000004)), some (.inr (.inl 0)), some (.inr (.inl 30)), some (.inr (.inl 47)), some (.inl i), some (.inl r233), some (.inl r241)], [.inr (.inr v254)], n227, D228, s239, p230, c240) _
            refine tt_k 1 (S' := (649, [some (.inr (.inl 1000004)), some (.inr (.inl 0)), some (.inr (.inl 30)), some (.inr (.inl 47)), some (.inl i), some (.inl r233), some (.inl r241)], [.inl r241, .inr (.inr v254)], n227, D228, s239, p230, c240)) rfl ?_
            refine tt_i2l (x := r241) rfl (by omega) ?_
            refine tt_k 1 (S' := (651, [some (.inr (.inl 1000004)), some (.inr (.inl 0)), some (.inr (.inl 30)), some (.inr (.inl 47)), some (.inl i), some (.inl r233), some (.inl r241)], [.inl (mi_lcmp v254 r241)], n227, D228, s239, p230, c240)) rfl ?_
            have b255 := mi_lcmp_eq (x := v254) (y := r241) (by omega) (by omega)
            have e256 := mi_lcmp_lt (x := v254) (y := r241) (by omega) (by omega)
            refine tz_eq (x := (mi_lcmp v254 r241)) rfl rfl (by omega) (fun h257 => ?_) (fun h257 => ?_)
            · show tt Zi 12 0 (656, [some (.inr (.inl 1000004)), some (.inr (.inl 0)), some (.inr (.inl 30)), some (.inr (.inl 47)), some (.inl i), some (.inl r233), some (.inl r241)], [], n227, D228, s239, p230, c240) _
              refine tt_k 3 (S' := (23, [some (.inr (.inl 1000004)), some (.inr (.inl 0)), some (.inr (.inl 30)), some (.inr (.inl 47)), some (.inl (i + 9)), some (.inl r233), some (.inl r241)], [], n227, D228, s239, p230, c240)) rfl ?_
              exact ih (q + 1) (i + 9) (some (.inl r233)) (some (.inl r241)) (n227, D228, s239, p230, c240) ⟨hS239, hC240, (wp_rg hW248), FKr.1⟩ ht2 tS2 tQ2 (by omega) (by omega) (by omega) (by omega)
            · show tt Zi 12 0 (654, [some (.inr (.inl 1000004)), some (.inr (.inl 0)), some (.inr (.inl 30)), some (.inr (.inl 47)), some (.inl i), some (.inl r233), some (.inl r241)], [], n227, D228, s239, p230, c240) _
              refine tt_k 1 (S' := (655, [some (.inr (.inl 1000004)), some (.inr (.inl 0)), some (.inr (.inl 30)), some (.inr (.inl 47)), some (.inl i), some (.inl r233), some (.inl r241)], [.inl 0], n227, D228, s239, p230, c240)) rfl ?_
              exfalso
              omega
        · show tt Zi 12 0 (637, [some (.inr (.inl 1000004)), some (.inr (.inl 0)), some (.inr (.inl 30)), some (.inr (.inl 47)), some (.inl i), some (.inl r233), some (.inl r241)], [], n227, D228, s239, p230, c240) _
          refine tt_k 1 (S' := (638, [some (.inr (.inl 1000004)), some (.inr (.inl 0)), some (.inr (.inl 30)), some (.inr (.inl 47)), some (.inl i), some (.inl r233), some (.inl r241)], [.inl 0], n227, D228, s239, p230, c240)) rfl ?_
          exfalso
          omega
      by_cases h258 : (mi_and (xs (i).toNat) 15) = 10
      · have h259 := h258
        refine tt_tsw (x := (mi_and (xs (i).toNat) 15)) (off := 619) rfl (by omega) (by omega) (by rw [h258]; rfl) rfl ?_
        show tt Zi 12 0 (659, [some (.inr (.inl 1000004)), some (.inr (.inl 0)), some (.inr (.inl 30)), some (.inr (.inl 47)), some (.inl i), o5, o6], [], n, D, s, p, c) _
        refine tt_k 2 (S' := (661, [some (.inr (.inl 1000004)), some (.inr (.inl 0)), some (.inr (.inl 30)), some (.inr (.inl 47)), some (.inl i), o5, o6], [.inr (.inl 47), .inr (.inl 0)], n, D, s, p, c)) rfl ?_
        refine tt_cl (by omega) rfl (h_turn (Zi := Zi) (q := q) (n := n) (D := D) (s := s) (p := p) (c := c) (by omega) hz (by omega) hD hS hC (wp_rg hW) ) ?_
        rintro _ ⟨n260, D261, s262, p263, c264⟩ ⟨r266, rfl, b267, hY265, k268, k269, k270, k271⟩
        have hS262 : bS s262 := hY265.1
        have hC264 : bC D261 c264 := hY265.2.1
        have hW263 : wp _ _ n260 D261 p263 s262 := hY265.2.2.1
        have FKc : fk p c n260 p263 c264 [47, 600] := hY265.2.2.2.1
        have FFc : fr s s262 [601, 800, 801, 802, 803, 804, 805, 806, 807, 808, 809, 902, 1705, 1706, 2001, 2002, 2003, 2004, 2005, 2006, 2106, 2107, 2108, 2109, 2110, 2111, 2112, 2113, 2114, 2115, 2116, 2500, 2501, 2502, 2503, 2700, 2701, 2702, 2703] := hY265.2.2.2.2
        replace k268 : r266 = 0 → s 401 ≤ 32768 ∧ s262 601 = s 401 ∧ c264 47 0 = s 401 := k268
        replace k269 : r266 ≠ 0 → r266 = 1 ∧ ¬ (s 401 ≤ 32768) ∧ s262 601 = s 601 := k269
        replace k271 : r266 ≠ 0 → fk p c n260 p263 c264 [] := k271
        show tt Zi 12 0 (664, [some (.inr (.inl 1000004)), some (.inr (.inl 0)), some (.inr (.inl 30)), some (.inr (.inl 47)), some (.inl i), o5, o6], [.inl r266], n260, D261, s262, p263, c264) _
        have tc100 : s262 100 = (s 100) := hW263.gz 100 rfl
        have tc101 : s262 101 = (s 101) := hW263.gz 101 rfl
        have tc102 : s262 102 = (s 102) := hW263.gz 102 rfl
        have tc103 : s262 103 = (s 103) := hW263.gz 103 rfl
        have tc3001 : s262 3001 = (s 3001) := hW263.gz 3001 rfl
        have tc3002 : s262 3002 = (s 3002) := hW263.gz 3002 rfl
        have tc3003 : s262 3003 = (s 3003) := hW263.gz 3003 rfl
        have tc3004 : s262 3004 = (s 3004) := hW263.gz 3004 rfl
        refine tt_k 2 (S' := (667, [some (.inr (.inl 1000004)), some (.inr (.inl 0)), some (.inr (.inl 30)), some (.inr (.inl 47)), some (.inl i), some (.inl r266), o6], [.inr (.inl 30)], n260, D261, s262, p263, c264)) rfl ?_
        refine tt_cl (by omega) rfl (y_turn (Zi := Zi) (D := D261) (s := s262) (p := p263) (c := c264) (by omega) hS262 hC264 ) ?_
        rintro _ _ ⟨s272, c273, r274, rfl, rfl, hS272, hC273, f275, g276, b277, k278, k279, k280, k281, k282⟩
        have hW283 := wp_rf f275 (by decide) hW263
        show tt Zi 12 0 (670, [some (.inr (.inl 1000004)), some (.inr (.inl 0)), some (.inr (.inl 30)), some (.inr (.inl 47)), some (.inl i), some (.inl r266), o6], [.inl r274], n260, D261, s272, p263, c273) _
        have te100 : s272 100 = (s262 100) := f275 100 (by decide)
        have te101 : s272 101 = (s262 101) := f275 101 (by decide)
        have te102 : s272 102 = (s262 102) := f275 102 (by decide)
        have te103 : s272 103 = (s262 103) := f275 103 (by decide)
        have te3001 : s272 3001 = (s262 3001) := f275 3001 (by decide)
        have te3002 : s272 3002 = (s262 3002) := f275 3002 (by decide)
        have te3003 : s272 3003 = (s262 3003) := f275 3003 (by decide)
        have te3004 : s272 3004 = (s262 3004) := f275 3004 (by decide)
        have ht2 : tie s272 := ⟨te100.trans (tc100.trans (ht.1.trans (tc3001.symm.trans te3001.symm))), te101.trans (tc101.trans (ht.2.1.trans (tc3002.symm.trans te3002.symm))), te102.trans (tc102.trans (ht.2.2.1.trans (tc3003.symm.trans te3003.symm))), te103.trans (tc103.trans (ht.2.2.2.trans (tc3004.symm.trans te3004.symm)))⟩
        have FKr := fk_rc FKc.1 g276 (by decide)
        have tS2 : tiS s272 p263 c273 := tiS_fk (tiS_fk ⟨E, hcE, hrE⟩ FKc (by decide) tc100 tc101 tc102) FKr (by decide) te100 te101 te102
        have q1 : tqC c273 := tqC_f hQ.1 FKc FKr (by decide)
        have q2 : tqW s272 := tqW_f (tqW_f hQ.2.1 FFc (by decide)) f275 (by decide)
        have q3 : tqP s272 p263 c273 := tqP_f hQ.2.2.1 FKc FKr (by decide) FFc (by decide) f275 (by decide)
        have hqt := tu_q hQ.2.2.2.1 hQ.2.2.1.1 k268 k269 (tqN FFc (by decide)) (tqZ FFc (by decide)) k278 k279 k280
        rw [← show c273 47 = c264 47 from g276 47 (by decide)] at hqt
        have q4 : tqT s272 := (f275 601 (by decide)).trans hqt.2.2
        have q5 : tqB s272 p263 c273 := tqB_tu hQ.2.2.2.2 hQ.2.2.1 FKc FKr FFc (by decide) (tu_c k268 k269 hQ.2.2.1.1 (tqZ FFc (by decide))) k270 k271 (fun h => (k268 h).2.1) (fun h => (k269 h).2.2) k281 k282 f275
        clear k278 k279 k280 k281 k282 k268 k269 k270 k271
        have tQ2 : tiQ s272 p263 c273 := ⟨q1, q2, q3, q4, q5⟩
        clear tc100 tc101 tc102 tc103 tc3001 tc3002 tc3003 tc3004 te100 te101 te102 te103 te3001 te3002 te3003 te3004
        refine tt_k 4 (S' := (23, [some (.inr (.inl 1000004)), some (.inr (.inl 0)), some (.inr (.inl 30)), some (.inr (.inl 47)), some (.inl (i + 9)), some (.inl r266), some (.inl r274)], [], n260, D261, s272, p263, c273)) rfl ?_
        exact ih (q + 1) (i + 9) (some (.inl r266)) (some (.inl r274)) (n260, D261, s272, p263, c273) ⟨hS272, hC273, (wp_rg hW283), FKr.1⟩ ht2 tS2 tQ2 (by omega) (by omega) (by omega) (by omega)
      by_cases h284 : (mi_and (xs (i).toNat) 15) = 11
      · have h285 := h284
        refine tt_tsw (x := (mi_and (xs (i).toNat) 15)) (off := 635) rfl (by omega) (by omega) (by rw [h284]; rfl) rfl ?_
        show tt Zi 12 0 (675, [some (.inr (.inl 1000004)), some (.inr (.inl 0)), some (.inr (.inl 30)), some (.inr (.inl 47)), some (.inl i), o5, o6], [], n, D, s, p, c) _
        refine tt_k 1 (S' := (676, [some (.inr (.inl 1000004)), some (.inr (.inl 0)), some (.inr (.inl 30)), some (.inr (.inl 47)), some (.inl i), o5, o6], [.inr (.inl 0)], n, D, s, p, c)) rfl ?_
        refine tt_cl (by omega) rfl (g_unpack (Zi := Zi) (q := q) (n := n) (D := D) (s := s) (p := p) (c := c) (by omega) hz (by omega) hD hS hC (wp_rg hW) ) ?_
        rintro _ ⟨n286, D287, s288, p289, c290⟩ ⟨r292, rfl, b293, hY291⟩
        have hS288 : bS s288 := hY291.1
        have hC290 : bC D287 c290 := hY291.2.1
        have hW289 : wp _ _ n286 D287 p289 s288 := hY291.2.2.1
        have FKc : fk p c n286 p289 c290 [18, 19, 900, 901, 2103, 2104, 2504, 2704] := hY291.2.2.2.1
        have FFc : fr s s288 [10, 11, 800, 801, 802, 803, 804, 805, 806, 807, 808, 809, 902, 1705, 1706, 2001, 2002, 2003, 2004, 2005, 2006, 2106, 2107, 2108, 2109, 2110, 2111, 2112, 2113, 2114, 2115, 2116, 2500, 2501, 2502, 2503, 2700, 2701, 2702, 2703] := hY291.2.2.2.2
        show tt Zi 12 0 (679, [some (.inr (.inl 1000004)), some (.inr (.inl 0)), some (.inr (.inl 30)), some (.inr (.inl 47)), some (.inl i), o5, o6], [.inl r292], n286, D287, s288, p289, c290) _
        have tc100 : s288 100 = (s 100) := hW289.gz 100 rfl
        have tc101 : s288 101 = (s 101) := hW289.gz 101 rfl
        have tc102 : s288 102 = (s 102) := hW289.gz 102 rfl
        have tc103 : s288 103 = (s 103) := hW289.gz 103 rfl
        have tc3001 : s288 3001 = (s 3001) := hW289.gz 3001 rfl
        have tc3002 : s288 3002 = (s 3002) := hW289.gz 3002 rfl
        have tc3003 : s288 3003 = (s 3003) := hW289.gz 3003 rfl
        have tc3004 : s288 3004 = (s 3004) := hW289.gz 3004 rfl
        refine tt_k 2 (S' := (681, [some (.inr (.inl 1000004)), some (.inr (.inl 0)), some (.inr (.inl 30)), some (.inr (.inl 47)), some (.inl i), o5, o6], [.inr (.inl 30)], n286, D287, s288, p289, c290)) rfl ?_
        refine tt_cl (by omega) rfl (k_unpack (Zi := Zi) (D := D287) (s := s288) (p := p289) (c := c290) (by omega) hS288 hC290 ) ?_
        rintro _ _ ⟨s294, c295, r296, rfl, rfl, hS294, hC295, f297, g298, b299⟩
        have hW300 := wp_rf f297 (by decide) hW289
        show tt Zi 12 0 (684, [some (.inr (.inl 1000004)), some (.inr (.inl 0)), some (.inr (.inl 30)), some (.inr (.inl 47)), some (.inl i), o5, o6], [.inl r296], n286, D287, s294, p289, c295) _
        have te100 : s294 100 = (s288 100) := f297 100 (by decide)
        have te101 : s294 101 = (s288 101) := f297 101 (by decide)
        have te102 : s294 102 = (s288 102) := f297 102 (by decide)
        have te103 : s294 103 = (s288 103) := f297 103 (by decide)
        have te3001 : s294 3001 = (s288 3001) := f297 3001 (by decide)
        have te3002 : s294 3002 = (s288 3002) := f297 3002 (by decide)
        have te3003 : s294 3003 = (s288 3003) := f297 3003 (by decide)
        have te3004 : s294 3004 = (s288 3004) := f297 3004 (by decide)
        have ht2 : tie s294 := ⟨te100.trans (tc100.trans (ht.1.trans (tc3001.symm.trans te3001.symm))), te101.trans (tc101.trans (ht.2.1.trans (tc3002.symm.trans te3002.symm))), te102.trans (tc102.trans (ht.2.2.1.trans (tc3003.symm.trans te3003.symm))), te103.trans (tc103.trans (ht.2.2.2.trans (tc3004.symm.trans te3004.symm)))⟩
        have FKr := fk_rc FKc.1 g298 (by decide)
        have tS2 : tiS s294 p289 c295 := tiS_fk (tiS_fk ⟨E, hcE, hrE⟩ FKc (by decide) tc100 tc101 tc102) FKr (by decide) te100 te101 te102
        have q1 : tqC c295 := tqC_f hQ.1 FKc FKr (by decide)
        have q2 : tqW s294 := tqW_f (tqW_f hQ.2.1 FFc (by decide)) f297 (by decide)
        have q3 : tqP s294 p289 c295 := tqP_f hQ.2.2.1 FKc FKr (by decide) FFc (by decide) f297 (by decide)
        have q4 : tqT s294 := tqT_f (tqT_f hQ.2.2.2.1 FFc (by decide)) f297 (by decide)
        have q5 : tqB s294 p289 c295 := tqB_f hQ.2.2.2.2 FKc FKr (by decide) FFc (by decide) f297 (by decide)
        have tQ2 : tiQ s294 p289 c295 := ⟨q1, q2, q3, q4, q5⟩
        clear tc100 tc101 tc102 tc103 tc3001 tc3002 tc3003 tc3004 te100 te101 te102 te103 te3001 te3002 te3003 te3004
        refine tt_k 4 (S' := (23, [some (.inr (.inl 1000004)), some (.inr (.inl 0)), some (.inr (.inl 30)), some (.inr (.inl 47)), some (.inl (i + 9)), o5, o6], [], n286, D287, s294, p289, c295)) rfl ?_
        exact ih (q + 1) (i + 9) (o5) (o6) (n286, D287, s294, p289, c295) ⟨hS294, hC295, (wp_rg hW300), FKr.1⟩ ht2 tS2 tQ2 (by omega) (by omega) (by omega) (by omega)
      by_cases h301 : (mi_and (xs (i).toNat) 15) = 12
      · have h302 := h301
        refine tt_tsw (x := (mi_and (xs (i).toNat) 15)) (off := 648) rfl (by omega) (by omega) (by rw [h301]; rfl) rfl ?_
        show tt Zi 12 0 (688, [some (.inr (.inl 1000004)), some (.inr (.inl 0)), some (.inr (.inl 30)), some (.inr (.inl 47)), some (.inl i), o5, o6], [], n, D, s, p, c) _
        refine tt_k 1 (S' := (689, [some (.inr (.inl 1000004)), some (.inr (.inl 0)), some (.inr (.inl 30)), some (.inr (.inl 47)), some (.inl i), o5, o6], [.inr (.inl 0)], n, D, s, p, c)) rfl ?_
        refine tt_cl (by omega) rfl (g_place (Zi := Zi) (q := q) (n := n) (D := D) (s := s) (p := p) (c := c) (by omega) hz (by omega) hD hS hC (wp_rg hW) ) ?_
        rintro _ ⟨n303, D304, s305, p306, c307⟩ ⟨r309, rfl, b310, hY308⟩
        have hS305 : bS s305 := hY308.1
        have hC307 : bC D304 c307 := hY308.2.1
        have hW306 : wp _ _ n303 D304 p306 s305 := hY308.2.2.1
        have FKc : fk p c n303 p306 c307 [] := hY308.2.2.2.1
        have FFc : fr s s305 [] := hY308.2.2.2.2
        show tt Zi 12 0 (692, [some (.inr (.inl 1000004)), some (.inr (.inl 0)), some (.inr (.inl 30)), some (.inr (.inl 47)), some (.inl i), o5, o6], [.inl r309], n303, D304, s305, p306, c307) _
        have tc100 : s305 100 = (s 100) := hW306.gz 100 rfl
        have tc101 : s305 101 = (s 101) := hW306.gz 101 rfl
        have tc102 : s305 102 = (s 102) := hW306.gz 102 rfl
        have tc103 : s305 103 = (s 103) := hW306.gz 103 rfl
        have tc3001 : s305 3001 = (s 3001) := hW306.gz 3001 rfl
        have tc3002 : s305 3002 = (s 3002) := hW306.gz 3002 rfl
        have tc3003 : s305 3003 = (s 3003) := hW306.gz 3003 rfl
        have tc3004 : s305 3004 = (s 3004) := hW306.gz 3004 rfl
        refine tt_k 2 (S' := (694, [some (.inr (.inl 1000004)), some (.inr (.inl 0)), some (.inr (.inl 30)), some (.inr (.inl 47)), some (.inl i), o5, o6], [.inr (.inl 30)], n303, D304, s305, p306, c307)) rfl ?_
        refine tt_cl (by omega) rfl (k_place (Zi := Zi) (D := D304) (s := s305) (p := p306) (c := c307) (by omega) hS305 hC307 ) ?_
        rintro _ _ ⟨s311, r312, rfl, rfl, hS311, f313, b314, k315, k316⟩
        have hW317 := wp_rf f313 (by decide) hW306
        show tt Zi 12 0 (697, [some (.inr (.inl 1000004)), some (.inr (.inl 0)), some (.inr (.inl 30)), some (.inr (.inl 47)), some (.inl i), o5, o6], [.inl r312], n303, D304, s311, p306, c307) _
        have te100 : s311 100 = (s305 100) := f313 100 (by decide)
        have te101 : s311 101 = (s305 101) := f313 101 (by decide)
        have te102 : s311 102 = (s305 102) := f313 102 (by decide)
        have te103 : s311 103 = (s305 103) := f313 103 (by decide)
        have te3001 : s311 3001 = (s305 3001) := f313 3001 (by decide)
        have te3002 : s311 3002 = (s305 3002) := f313 3002 (by decide)
        have te3003 : s311 3003 = (s305 3003) := f313 3003 (by decide)
        have te3004 : s311 3004 = (s305 3004) := f313 3004 (by decide)
        have ht2 : tie s311 := ⟨te100.trans (tc100.trans (ht.1.trans (tc3001.symm.trans te3001.symm))), te101.trans (tc101.trans (ht.2.1.trans (tc3002.symm.trans te3002.symm))), te102.trans (tc102.trans (ht.2.2.1.trans (tc3003.symm.trans te3003.symm))), te103.trans (tc103.trans (ht.2.2.2.trans (tc3004.symm.trans te3004.symm)))⟩
        have FKr := fk_rf (c := c307) (K := []) FKc.1
        have tS2 : tiS s311 p306 c307 := tiS_fk (tiS_fk ⟨E, hcE, hrE⟩ FKc (by decide) tc100 tc101 tc102) FKr (by decide) te100 te101 te102
        have q1 : tqC c307 := tqC_f hQ.1 FKc FKr (by decide)
        have q2 : tqW s311 := tqW_f (tqW_f hQ.2.1 FFc (by decide)) f313 (by decide)
        have q3 : tqP s311 p306 c307 := tqP_f hQ.2.2.1 FKc FKr (by decide) FFc (by decide) f313 (by decide)
        have q4 : tqT s311 := tqT_f (tqT_f hQ.2.2.2.1 FFc (by decide)) f313 (by decide)
        have q5 : tqB s311 p306 c307 := tqB_f hQ.2.2.2.2 FKc FKr (by decide) FFc (by decide) f313 (by decide)
        have tQ2 : tiQ s311 p306 c307 := ⟨q1, q2, q3, q4, q5⟩
        clear tc100 tc101 tc102 tc103 tc3001 tc3002 tc3003 tc3004 te100 te101 te102 te103 te3001 te3002 te3003 te3004
        refine tt_k 4 (S' := (23, [some (.inr (.inl 1000004)), some (.inr (.inl 0)), some (.inr (.inl 30)), some (.inr (.inl 47)), some (.inl (i + 9)), o5, o6], [], n303, D304, s311, p306, c307)) rfl ?_
        exact ih (q + 1) (i + 9) (o5) (o6) (n303, D304, s311, p306, c307) ⟨hS311, hC307, (wp_rg hW317), FKr.1⟩ ht2 tS2 tQ2 (by omega) (by omega) (by omega) (by omega)
      by_cases h318 : (mi_and (xs (i).toNat) 15) = 13
      · have h319 := h318
        refine tt_tsw (x := (mi_and (xs (i).toNat) 15)) (off := 661) rfl (by omega) (by omega) (by rw [h318]; rfl) rfl ?_
        show tt Zi 12 0 (701, [some (.inr (.inl 1000004)), some (.inr (.inl 0)), some (.inr (.inl 30)), some (.inr (.inl 47)), some (.inl i), o5, o6], [], n, D, s, p, c) _
        refine tt_k 5 (S' := (707, [some (.inr (.inl 1000004)), some (.inr (.inl 0)), some (.inr (.inl 30)), some (.inr (.inl 47)), some (.inl i), o5, o6], [.inl (i + 1), .inr (.inl 1000004), .inr (.inl 0)], n, D, s, p, c)) rfl ?_
        refine tt_stat (j := 4) (i := (i + 1)) rfl hs (by omega) ?_
        show tt Zi 12 0 (708, [some (.inr (.inl 1000004)), some (.inr (.inl 0)), some (.inr (.inl 30)), some (.inr (.inl 47)), some (.inl i), o5, o6], [.inl ((xs ((i + 1)).toNat)), .inr (.inl 0)], n, D, s, p, c) _
        have b320 := hxs ((i + 1)).toNat
        refine tt_k 1 (S' := (709, [some (.inr (.inl 1000004)), some (.inr (.inl 0)), some (.inr (.inl 30)), some (.inr (.inl 47)), some (.inl i), o5, o6], [.inr (.inl 47), .inl ((xs ((i + 1)).toNat)), .inr (.inl 0)], n, D, s, p, c)) rfl ?_
        refine tt_cl (by omega) rfl (h_about (Zi := Zi) (q := q) (n := n) (D := D) (s := s) (p := p) (c := c) (by omega) hz (by omega) hD hS hC (wp_rg hW) ((xs ((i + 1)).toNat)) (by omega)) ?_
        rintro _ ⟨n321, D322, s323, p324, c325⟩ ⟨r327, rfl, b328, hY326⟩
        have hS323 : bS s323 := hY326.1
        have hC325 : bC D322 c325 := hY326.2.1
        have hW324 : wp _ _ n321 D322 p324 s323 := hY326.2.2.1
        have FKc : fk p c n321 p324 c325 [47] := hY326.2.2.2.1
        have FFc : fr s s323 [800, 801, 802, 803, 804, 805, 806, 807, 808, 809, 902, 1705, 1706, 2001, 2002, 2003, 2004, 2005, 2006, 2106, 2107, 2108, 2109, 2110, 2111, 2112, 2113, 2114, 2115, 2116, 2500, 2501, 2502, 2503, 2700, 2701, 2702, 2703] := hY326.2.2.2.2
        show tt Zi 12 0 (712, [some (.inr (.inl 1000004)), some (.inr (.inl 0)), some (.inr (.inl 30)), some (.inr (.inl 47)), some (.inl i), o5, o6], [.inl r327], n321, D322, s323, p324, c325) _
        have tc100 : s323 100 = (s 100) := hW324.gz 100 rfl
        have tc101 : s323 101 = (s 101) := hW324.gz 101 rfl
        have tc102 : s323 102 = (s 102) := hW324.gz 102 rfl
        have tc103 : s323 103 = (s 103) := hW324.gz 103 rfl
        have tc3001 : s323 3001 = (s 3001) := hW324.gz 3001 rfl
        have tc3002 : s323 3002 = (s 3002) := hW324.gz 3002 rfl
        have tc3003 : s323 3003 = (s 3003) := hW324.gz 3003 rfl
        have tc3004 : s323 3004 = (s 3004) := hW324.gz 3004 rfl
        refine tt_k 6 (S' := (720, [some (.inr (.inl 1000004)), some (.inr (.inl 0)), some (.inr (.inl 30)), some (.inr (.inl 47)), some (.inl i), some (.inl r327), o6], [.inl (i + 1), .inr (.inl 1000004), .inr (.inl 30)], n321, D322, s323, p324, c325)) rfl ?_
        refine tt_stat (j := 4) (i := (i + 1)) rfl hs (by omega) ?_
        show tt Zi 12 0 (721, [some (.inr (.inl 1000004)), some (.inr (.inl 0)), some (.inr (.inl 30)), some (.inr (.inl 47)), some (.inl i), some (.inl r327), o6], [.inl ((xs ((i + 1)).toNat)), .inr (.inl 30)], n321, D322, s323, p324, c325) _
        refine tt_cl (by omega) rfl (k_about (Zi := Zi) (D := D322) (s := s323) (p := p324) (c := c325) (by omega) hS323 hC325 ((xs ((i + 1)).toNat)) (by omega)) ?_
        rintro _ _ ⟨s329, r330, rfl, rfl, hS329, f331, b332⟩
        have hW333 := wp_rf f331 (by decide) hW324
        show tt Zi 12 0 (724, [some (.inr (.inl 1000004)), some (.inr (.inl 0)), some (.inr (.inl 30)), some (.inr (.inl 47)), some (.inl i), some (.inl r327), o6], [.inl r330], n321, D322, s329, p324, c325) _
        have te100 : s329 100 = (s323 100) := f331 100 (by decide)
        have te101 : s329 101 = (s323 101) := f331 101 (by decide)
        have te102 : s329 102 = (s323 102) := f331 102 (by decide)
        have te103 : s329 103 = (s323 103) := f331 103 (by decide)
        have te3001 : s329 3001 = (s323 3001) := f331 3001 (by decide)
        have te3002 : s329 3002 = (s323 3002) := f331 3002 (by decide)
        have te3003 : s329 3003 = (s323 3003) := f331 3003 (by decide)
        have te3004 : s329 3004 = (s323 3004) := f331 3004 (by decide)
        have ht2 : tie s329 := ⟨te100.trans (tc100.trans (ht.1.trans (tc3001.symm.trans te3001.symm))), te101.trans (tc101.trans (ht.2.1.trans (tc3002.symm.trans te3002.symm))), te102.trans (tc102.trans (ht.2.2.1.trans (tc3003.symm.trans te3003.symm))), te103.trans (tc103.trans (ht.2.2.2.trans (tc3004.symm.trans te3004.symm)))⟩
        have FKr := fk_rf (c := c325) (K := []) FKc.1
        have tS2 : tiS s329 p324 c325 := tiS_fk (tiS_fk ⟨E, hcE, hrE⟩ FKc (by decide) tc100 tc101 tc102) FKr (by decide) te100 te101 te102
        have q1 : tqC c325 := tqC_f hQ.1 FKc FKr (by decide)
        have q2 : tqW s329 := tqW_f (tqW_f hQ.2.1 FFc (by decide)) f331 (by decide)
        have q3 : tqP s329 p324 c325 := tqP_f hQ.2.2.1 FKc FKr (by decide) FFc (by decide) f331 (by decide)
        have q4 : tqT s329 := tqT_f (tqT_f hQ.2.2.2.1 FFc (by decide)) f331 (by decide)
        have q5 : tqB s329 p324 c325 := tqB_f hQ.2.2.2.2 FKc FKr (by decide) FFc (by decide) f331 (by decide)
        have tQ2 : tiQ s329 p324 c325 := ⟨q1, q2, q3, q4, q5⟩
        clear tc100 tc101 tc102 tc103 tc3001 tc3002 tc3003 tc3004 te100 te101 te102 te103 te3001 te3002 te3003 te3004
        refine tt_k 4 (S' := (23, [some (.inr (.inl 1000004)), some (.inr (.inl 0)), some (.inr (.inl 30)), some (.inr (.inl 47)), some (.inl (i + 9)), some (.inl r327), some (.inl r330)], [], n321, D322, s329, p324, c325)) rfl ?_
        exact ih (q + 1) (i + 9) (some (.inl r327)) (some (.inl r330)) (n321, D322, s329, p324, c325) ⟨hS329, hC325, (wp_rg hW333), FKr.1⟩ ht2 tS2 tQ2 (by omega) (by omega) (by omega) (by omega)
      by_cases h334 : (mi_and (xs (i).toNat) 15) = 14
      · have h335 := h334
        refine tt_tsw (x := (mi_and (xs (i).toNat) 15)) (off := 689) rfl (by omega) (by omega) (by rw [h334]; rfl) rfl ?_
        show tt Zi 12 0 (729, [some (.inr (.inl 1000004)), some (.inr (.inl 0)), some (.inr (.inl 30)), some (.inr (.inl 47)), some (.inl i), o5, o6], [], n, D, s, p, c) _
        refine tt_k 5 (S' := (735, [some (.inr (.inl 1000004)), some (.inr (.inl 0)), some (.inr (.inl 30)), some (.inr (.inl 47)), some (.inl i), o5, o6], [.inl (i + 1), .inr (.inl 1000004), .inr (.inl 0)], n, D, s, p, c)) rfl ?_
        refine tt_stat (j := 4) (i := (i + 1)) rfl hs (by omega) ?_
        show tt Zi 12 0 (736, [some (.inr (.inl 1000004)), some (.inr (.inl 0)), some (.inr (.inl 30)), some (.inr (.inl 47)), some (.inl i), o5, o6], [.inl ((xs ((i + 1)).toNat)), .inr (.inl 0)], n, D, s, p, c) _
        have b336 := hxs ((i + 1)).toNat
        refine tt_k 4 (S' := (741, [some (.inr (.inl 1000004)), some (.inr (.inl 0)), some (.inr (.inl 30)), some (.inr (.inl 47)), some (.inl i), o5, o6], [.inl (i + 2), .inr (.inl 1000004), .inl ((xs ((i + 1)).toNat)), .inr (.inl 0)], n, D, s, p, c)) rfl ?_
        refine tt_stat (j := 4) (i := (i + 2)) rfl hs (by omega) ?_
        show tt Zi 12 0 (742, [some (.inr (.inl 1000004)), some (.inr (.inl 0)), some (.inr (.inl 30)), some (.inr (.inl 47)), some (.inl i), o5, o6], [.inl ((xs ((i + 2)).toNat)), .inl ((xs ((i + 1)).toNat)), .inr (.inl 0)], n, D, s, p, c) _
        have b337 := hxs ((i + 2)).toNat
        refine tt_k 4 (S' := (747, [some (.inr (.inl 1000004)), some (.inr (.inl 0)), some (.inr (.inl 30)), some (.inr (.inl 47)), some (.inl i), o5, o6], [.inl (i + 3), .inr (.inl 1000004), .inl ((xs ((i + 2)).toNat)), .inl ((xs ((i + 1)).toNat)), .inr (.inl 0)], n, D, s, p, c)) rfl ?_
        refine tt_stat (j := 4) (i := (i + 3)) rfl hs (by omega) ?_
        show tt Zi 12 0 (748, [some (.inr (.inl 1000004)), some (.inr (.inl 0)), some (.inr (.inl 30)), some (.inr (.inl 47)), some (.inl i), o5, o6], [.inl ((xs ((i + 3)).toNat)), .inl ((xs ((i + 2)).toNat)), .inl ((xs ((i + 1)).toNat)), .inr (.inl 0)], n, D, s, p, c) _
        have b338 := hxs ((i + 3)).toNat
        refine tt_k 1 (S' := (749, [some (.inr (.inl 1000004)), some (.inr (.inl 0)), some (.inr (.inl 30)), some (.inr (.inl 47)), some (.inl i), o5, o6], [.inr (.inl 47), .inl ((xs ((i + 3)).toNat)), .inl ((xs ((i + 2)).toNat)), .inl ((xs ((i + 1)).toNat)), .inr (.inl 0)], n, D, s, p, c)) rfl ?_
        refine tt_cl (by omega) rfl (h_sample (Zi := Zi) (q := q) (n := n) (D := D) (s := s) (p := p) (c := c) (by omega) hz (by omega) hD hS hC (wp_rg hW) ((xs ((i + 1)).toNat)) ((xs ((i + 2)).toNat)) ((xs ((i + 3)).toNat)) (by omega) (by omega) (by omega)) ?_
        rintro _ ⟨n339, D340, s341, p342, c343⟩ ⟨r345, rfl, b346, hY344⟩
        have hS341 : bS s341 := hY344.1
        have hC343 : bC D340 c343 := hY344.2.1
        have hW342 : wp _ _ n339 D340 p342 s341 := hY344.2.2.1
        have FKc : fk p c n339 p342 c343 [47] := hY344.2.2.2.1
        have FFc : fr s s341 [800, 801, 802, 803, 804, 805, 806, 807, 808, 809, 902, 1705, 1706, 2001, 2002, 2003, 2004, 2005, 2006, 2106, 2107, 2108, 2109, 2110, 2111, 2112, 2113, 2114, 2115, 2116, 2500, 2501, 2502, 2503, 2700, 2701, 2702, 2703] := hY344.2.2.2.2
        show tt Zi 12 0 (752, [some (.inr (.inl 1000004)), some (.inr (.inl 0)), some (.inr (.inl 30)), some (.inr (.inl 47)), some (.inl i), o5, o6], [.inl r345], n339, D340, s341, p342, c343) _
        have tc100 : s341 100 = (s 100) := hW342.gz 100 rfl
        have tc101 : s341 101 = (s 101) := hW342.gz 101 rfl
        have tc102 : s341 102 = (s 102) := hW342.gz 102 rfl
        have tc103 : s341 103 = (s 103) := hW342.gz 103 rfl
        have tc3001 : s341 3001 = (s 3001) := hW342.gz 3001 rfl
        have tc3002 : s341 3002 = (s 3002) := hW342.gz 3002 rfl
        have tc3003 : s341 3003 = (s 3003) := hW342.gz 3003 rfl
        have tc3004 : s341 3004 = (s 3004) := hW342.gz 3004 rfl
        refine tt_k 6 (S' := (760, [some (.inr (.inl 1000004)), some (.inr (.inl 0)), some (.inr (.inl 30)), some (.inr (.inl 47)), some (.inl i), some (.inl r345), o6], [.inl (i + 1), .inr (.inl 1000004), .inr (.inl 30)], n339, D340, s341, p342, c343)) rfl ?_
        refine tt_stat (j := 4) (i := (i + 1)) rfl hs (by omega) ?_
        show tt Zi 12 0 (761, [some (.inr (.inl 1000004)), some (.inr (.inl 0)), some (.inr (.inl 30)), some (.inr (.inl 47)), some (.inl i), some (.inl r345), o6], [.inl ((xs ((i + 1)).toNat)), .inr (.inl 30)], n339, D340, s341, p342, c343) _
        refine tt_k 4 (S' := (766, [some (.inr (.inl 1000004)), some (.inr (.inl 0)), some (.inr (.inl 30)), some (.inr (.inl 47)), some (.inl i), some (.inl r345), o6], [.inl (i + 2), .inr (.inl 1000004), .inl ((xs ((i + 1)).toNat)), .inr (.inl 30)], n339, D340, s341, p342, c343)) rfl ?_
        refine tt_stat (j := 4) (i := (i + 2)) rfl hs (by omega) ?_
        show tt Zi 12 0 (767, [some (.inr (.inl 1000004)), some (.inr (.inl 0)), some (.inr (.inl 30)), some (.inr (.inl 47)), some (.inl i), some (.inl r345), o6], [.inl ((xs ((i + 2)).toNat)), .inl ((xs ((i + 1)).toNat)), .inr (.inl 30)], n339, D340, s341, p342, c343) _
        refine tt_k 4 (S' := (772, [some (.inr (.inl 1000004)), some (.inr (.inl 0)), some (.inr (.inl 30)), some (.inr (.inl 47)), some (.inl i), some (.inl r345), o6], [.inl (i + 3), .inr (.inl 1000004), .inl ((xs ((i + 2)).toNat)), .inl ((xs ((i + 1)).toNat)), .inr (.inl 30)], n339, D340, s341, p342, c343)) rfl ?_
        refine tt_stat (j := 4) (i := (i + 3)) rfl hs (by omega) ?_
        show tt Zi 12 0 (773, [some (.inr (.inl 1000004)), some (.inr (.inl 0)), some (.inr (.inl 30)), some (.inr (.inl 47)), some (.inl i), some (.inl r345), o6], [.inl ((xs ((i + 3)).toNat)), .inl ((xs ((i + 2)).toNat)), .inl ((xs ((i + 1)).toNat)), .inr (.inl 30)], n339, D340, s341, p342, c343) _
        refine tt_cl (by omega) rfl (k_sample (Zi := Zi) (D := D340) (s := s341) (p := p342) (c := c343) (by omega) hS341 hC343 ((xs ((i + 1)).toNat)) ((xs ((i + 2)).toNat)) ((xs ((i + 3)).toNat)) (by omega) (by omega) (by omega)) ?_
        rintro _ _ ⟨s347, r348, rfl, rfl, hS347, f349, b350⟩
        have hW351 := wp_rf f349 (by decide) hW342
        show tt Zi 12 0 (776, [some (.inr (.inl 1000004)), some (.inr (.inl 0)), some (.inr (.inl 30)), some (.inr (.inl 47)), some (.inl i), some (.inl r345), o6], [.inl r348], n339, D340, s347, p342, c343) _
        have te100 : s347 100 = (s341 100) := f349 100 (by decide)
        have te101 : s347 101 = (s341 101) := f349 101 (by decide)
        have te102 : s347 102 = (s341 102) := f349 102 (by decide)
        have te103 : s347 103 = (s341 103) := f349 103 (by decide)
        have te3001 : s347 3001 = (s341 3001) := f349 3001 (by decide)
        have te3002 : s347 3002 = (s341 3002) := f349 3002 (by decide)
        have te3003 : s347 3003 = (s341 3003) := f349 3003 (by decide)
        have te3004 : s347 3004 = (s341 3004) := f349 3004 (by decide)
        have ht2 : tie s347 := ⟨te100.trans (tc100.trans (ht.1.trans (tc3001.symm.trans te3001.symm))), te101.trans (tc101.trans (ht.2.1.trans (tc3002.symm.trans te3002.symm))), te102.trans (tc102.trans (ht.2.2.1.trans (tc3003.symm.trans te3003.symm))), te103.trans (tc103.trans (ht.2.2.2.trans (tc3004.symm.trans te3004.symm)))⟩
        have FKr := fk_rf (c := c343) (K := []) FKc.1
        have tS2 : tiS s347 p342 c343 := tiS_fk (tiS_fk ⟨E, hcE, hrE⟩ FKc (by decide) tc100 tc101 tc102) FKr (by decide) te100 te101 te102
        have q1 : tqC c343 := tqC_f hQ.1 FKc FKr (by decide)
        have q2 : tqW s347 := tqW_f (tqW_f hQ.2.1 FFc (by decide)) f349 (by decide)
        have q3 : tqP s347 p342 c343 := tqP_f hQ.2.2.1 FKc FKr (by decide) FFc (by decide) f349 (by decide)
        have q4 : tqT s347 := tqT_f (tqT_f hQ.2.2.2.1 FFc (by decide)) f349 (by decide)
        have q5 : tqB s347 p342 c343 := tqB_f hQ.2.2.2.2 FKc FKr (by decide) FFc (by decide) f349 (by decide)
        have tQ2 : tiQ s347 p342 c343 := ⟨q1, q2, q3, q4, q5⟩
        clear tc100 tc101 tc102 tc103 tc3001 tc3002 tc3003 tc3004 te100 te101 te102 te103 te3001 te3002 te3003 te3004
        refine tt_k 4 (S' := (23, [some (.inr (.inl 1000004)), some (.inr (.inl 0)), some (.inr (.inl 30)), some (.inr (.inl 47)), some (.inl (i + 9)), some (.inl r345), some (.inl r348)], [], n339, D340, s347, p342, c343)) rfl ?_
        exact ih (q + 1) (i + 9) (some (.inl r345)) (some (.inl r348)) (n339, D340, s347, p342, c343) ⟨hS347, hC343, (wp_rg hW351), FKr.1⟩ ht2 tS2 tQ2 (by omega) (by omega) (by omega) (by omega)
      by_cases h352 : (mi_and (xs (i).toNat) 15) = 15
      · have h353 := h352
        refine tt_tsw (x := (mi_and (xs (i).toNat) 15)) (off := 741) rfl (by omega) (by omega) (by rw [h352]; rfl) rfl ?_
        show tt Zi 12 0 (781, [some (.inr (.inl 1000004)), some (.inr (.inl 0)), some (.inr (.inl 30)), some (.inr (.inl 47)), some (.inl i), o5, o6], [], n, D, s, p, c) _
        refine tt_k 5 (S' := (787, [some (.inr (.inl 1000004)), some (.inr (.inl 0)), some (.inr (.inl 30)), some (.inr (.inl 47)), some (.inl i), o5, o6], [.inl (i + 1), .inr (.inl 1000004), .inr (.inl 0)], n, D, s, p, c)) rfl ?_
        refine tt_stat (j := 4) (i := (i + 1)) rfl hs (by omega) ?_
        show tt Zi 12 0 (788, [some (.inr (.inl 1000004)), some (.inr (.inl 0)), some (.inr (.inl 30)), some (.inr (.inl 47)), some (.inl i), o5, o6], [.inl ((xs ((i + 1)).toNat)), .inr (.inl 0)], n, D, s, p, c) _
        have b354 := hxs ((i + 1)).toNat
        refine tt_k 4 (S' := (793, [some (.inr (.inl 1000004)), some (.inr (.inl 0)), some (.inr (.inl 30)), some (.inr (.inl 47)), some (.inl i), o5, o6], [.inl (i + 2), .inr (.inl 1000004), .inl ((xs ((i + 1)).toNat)), .inr (.inl 0)], n, D, s, p, c)) rfl ?_
        refine tt_stat (j := 4) (i := (i + 2)) rfl hs (by omega) ?_
        show tt Zi 12 0 (794, [some (.inr (.inl 1000004)), some (.inr (.inl 0)), some (.inr (.inl 30)), some (.inr (.inl 47)), some (.inl i), o5, o6], [.inl ((xs ((i + 2)).toNat)), .inl ((xs ((i + 1)).toNat)), .inr (.inl 0)], n, D, s, p, c) _
        have b355 := hxs ((i + 2)).toNat
        refine tt_k 1 (S' := (795, [some (.inr (.inl 1000004)), some (.inr (.inl 0)), some (.inr (.inl 30)), some (.inr (.inl 47)), some (.inl i), o5, o6], [.inr (.inl 47), .inl ((xs ((i + 2)).toNat)), .inl ((xs ((i + 1)).toNat)), .inr (.inl 0)], n, D, s, p, c)) rfl ?_
        refine tt_cl (by omega) rfl (h_learned (Zi := Zi) (q := q) (n := n) (D := D) (s := s) (p := p) (c := c) (by omega) hz (by omega) hD hS hC (wp_rg hW) ((xs ((i + 1)).toNat)) ((xs ((i + 2)).toNat)) (by omega) (by omega)) ?_
        rintro _ ⟨n356, D357, s358, p359, c360⟩ ⟨r362, rfl, b363, hY361⟩
        have hS358 : bS s358 := hY361.1
        have hC360 : bC D357 c360 := hY361.2.1
        have hW359 : wp _ _ n356 D357 p359 s358 := hY361.2.2.1
        have FKc : fk p c n356 p359 c360 [47] := hY361.2.2.2.1
        have FFc : fr s s358 [800, 801, 802, 803, 804, 805, 806, 807, 808, 809, 902, 1705, 1706, 2001, 2002, 2003, 2004, 2005, 2006, 2106, 2107, 2108, 2109, 2110, 2111, 2112, 2113, 2114, 2115, 2116, 2500, 2501, 2502, 2503, 2700, 2701, 2702, 2703] := hY361.2.2.2.2
        show tt Zi 12 0 (798, [some (.inr (.inl 1000004)), some (.inr (.inl 0)), some (.inr (.inl 30)), some (.inr (.inl 47)), some (.inl i), o5, o6], [.inl r362], n356, D357, s358, p359, c360) _
        have tc100 : s358 100 = (s 100) := hW359.gz 100 rfl
        have tc101 : s358 101 = (s 101) := hW359.gz 101 rfl
        have tc102 : s358 102 = (s 102) := hW359.gz 102 rfl
        have tc103 : s358 103 = (s 103) := hW359.gz 103 rfl
        have tc3001 : s358 3001 = (s 3001) := hW359.gz 3001 rfl
        have tc3002 : s358 3002 = (s 3002) := hW359.gz 3002 rfl
        have tc3003 : s358 3003 = (s 3003) := hW359.gz 3003 rfl
        have tc3004 : s358 3004 = (s 3004) := hW359.gz 3004 rfl
        refine tt_k 6 (S' := (806, [some (.inr (.inl 1000004)), some (.inr (.inl 0)), some (.inr (.inl 30)), some (.inr (.inl 47)), some (.inl i), some (.inl r362), o6], [.inl (i + 1), .inr (.inl 1000004), .inr (.inl 30)], n356, D357, s358, p359, c360)) rfl ?_
        refine tt_stat (j := 4) (i := (i + 1)) rfl hs (by omega) ?_
        show tt Zi 12 0 (807, [some (.inr (.inl 1000004)), some (.inr (.inl 0)), some (.inr (.inl 30)), some (.inr (.inl 47)), some (.inl i), some (.inl r362), o6], [.inl ((xs ((i + 1)).toNat)), .inr (.inl 30)], n356, D357, s358, p359, c360) _
        refine tt_k 4 (S' := (812, [some (.inr (.inl 1000004)), some (.inr (.inl 0)), some (.inr (.inl 30)), some (.inr (.inl 47)), some (.inl i), some (.inl r362), o6], [.inl (i + 2), .inr (.inl 1000004), .inl ((xs ((i + 1)).toNat)), .inr (.inl 30)], n356, D357, s358, p359, c360)) rfl ?_
        refine tt_stat (j := 4) (i := (i + 2)) rfl hs (by omega) ?_
        show tt Zi 12 0 (813, [some (.inr (.inl 1000004)), some (.inr (.inl 0)), some (.inr (.inl 30)), some (.inr (.inl 47)), some (.inl i), some (.inl r362), o6], [.inl ((xs ((i + 2)).toNat)), .inl ((xs ((i + 1)).toNat)), .inr (.inl 30)], n356, D357, s358, p359, c360) _
        refine tt_cl (by omega) rfl (k_learned (Zi := Zi) (D := D357) (s := s358) (p := p359) (c := c360) (by omega) hS358 hC360 ((xs ((i + 1)).toNat)) ((xs ((i + 2)).toNat)) (by omega) (by omega)) ?_
        rintro _ _ ⟨s364, r365, rfl, rfl, hS364, f366, b367⟩
        have hW368 := wp_rf f366 (by decide) hW359
        show tt Zi 12 0 (816, [some (.inr (.inl 1000004)), some (.inr (.inl 0)), some (.inr (.inl 30)), some (.inr (.inl 47)), some (.inl i), some (.inl r362), o6], [.inl r365], n356, D357, s364, p359, c360) _
        have te100 : s364 100 = (s358 100) := f366 100 (by decide)
        have te101 : s364 101 = (s358 101) := f366 101 (by decide)
        have te102 : s364 102 = (s358 102) := f366 102 (by decide)
        have te103 : s364 103 = (s358 103) := f366 103 (by decide)
        have te3001 : s364 3001 = (s358 3001) := f366 3001 (by decide)
        have te3002 : s364 3002 = (s358 3002) := f366 3002 (by decide)
        have te3003 : s364 3003 = (s358 3003) := f366 3003 (by decide)
        have te3004 : s364 3004 = (s358 3004) := f366 3004 (by decide)
        have ht2 : tie s364 := ⟨te100.trans (tc100.trans (ht.1.trans (tc3001.symm.trans te3001.symm))), te101.trans (tc101.trans (ht.2.1.trans (tc3002.symm.trans te3002.symm))), te102.trans (tc102.trans (ht.2.2.1.trans (tc3003.symm.trans te3003.symm))), te103.trans (tc103.trans (ht.2.2.2.trans (tc3004.symm.trans te3004.symm)))⟩
        have FKr := fk_rf (c := c360) (K := []) FKc.1
        have tS2 : tiS s364 p359 c360 := tiS_fk (tiS_fk ⟨E, hcE, hrE⟩ FKc (by decide) tc100 tc101 tc102) FKr (by decide) te100 te101 te102
        have q1 : tqC c360 := tqC_f hQ.1 FKc FKr (by decide)
        have q2 : tqW s364 := tqW_f (tqW_f hQ.2.1 FFc (by decide)) f366 (by decide)
        have q3 : tqP s364 p359 c360 := tqP_f hQ.2.2.1 FKc FKr (by decide) FFc (by decide) f366 (by decide)
        have q4 : tqT s364 := tqT_f (tqT_f hQ.2.2.2.1 FFc (by decide)) f366 (by decide)
        have q5 : tqB s364 p359 c360 := tqB_f hQ.2.2.2.2 FKc FKr (by decide) FFc (by decide) f366 (by decide)
        have tQ2 : tiQ s364 p359 c360 := ⟨q1, q2, q3, q4, q5⟩
        clear tc100 tc101 tc102 tc103 tc3001 tc3002 tc3003 tc3004 te100 te101 te102 te103 te3001 te3002 te3003 te3004
        refine tt_k 4 (S' := (23, [some (.inr (.inl 1000004)), some (.inr (.inl 0)), some (.inr (.inl 30)), some (.inr (.inl 47)), some (.inl (i + 9)), some (.inl r362), some (.inl r365)], [], n356, D357, s364, p359, c360)) rfl ?_
        exact ih (q + 1) (i + 9) (some (.inl r362)) (some (.inl r365)) (n356, D357, s364, p359, c360) ⟨hS364, hC360, (wp_rg hW368), FKr.1⟩ ht2 tS2 tQ2 (by omega) (by omega) (by omega) (by omega)
      refine tt_tsd (x := (mi_and (xs (i).toNat) 15)) rfl (by omega) (by omega) rfl ?_
      show tt Zi 12 0 (821, [some (.inr (.inl 1000004)), some (.inr (.inl 0)), some (.inr (.inl 30)), some (.inr (.inl 47)), some (.inl i), o5, o6], [], n, D, s, p, c) _
      refine tt_k 2 (S' := (23, [some (.inr (.inl 1000004)), some (.inr (.inl 0)), some (.inr (.inl 30)), some (.inr (.inl 47)), some (.inl (i + 9)), o5, o6], [], n, D, s, p, c)) rfl ?_
      exact ih q (i + 9) (o5) (o6) (n, D, s, p, c) ⟨hS, hC, (wp_rg hW), hD⟩ ht ⟨E, hcE, hrE⟩ hQ (by omega) (by omega) (by omega) (by omega)
