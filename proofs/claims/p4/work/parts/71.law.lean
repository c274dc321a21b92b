/-! the law's loop -/
def cV (q : Nat) (H : mi_H) : Prop := bS H.2.2.1 ∧ bC H.2.1 H.2.2.2.2 ∧ wp q H.2.2.1 H.1 H.2.1 H.2.2.2.1 H.2.2.1 ∧ wd H.1 H.2.2.2.1
def tie (s : Nat → Int) : Prop := s 100 = s 3001 ∧ s 101 = s 3002 ∧ s 102 = s 3003 ∧ s 103 = s 3004
def lawQ : mi_Rs → mi_H → Prop := fun R H => R = .inl (some (.inl 1)) ∧ ∃ g, cW 520 g H
set_option maxRecDepth 100000 in
set_option maxHeartbeats 8000000 in
theorem law_L {Zi : Nat → Option (Nat × (Nat → Int))} {L : Nat} {xs : Nat → Int} (hz : zk Zi) (hs : Zi 4 = some (L, xs)) (hxs : ∀ i, -2147483648 ≤ xs i ∧ xs i ≤ 2147483647) (hL : L ≤ 4608) : ∀ (m q : Nat) (i : Int) (o5 o6 : Option mi_V) (H : mi_H), cV q H → tie H.2.2.1 → tiS H.2.2.1 H.2.2.2.1 H.2.2.2.2 → 0 ≤ i → 9 * (q : Int) ≤ i → i ≤ 4617 → (4700 - i).toNat < m → tt Zi 12 0 (23, [some (.inr (.inl 1000004)), some (.inr (.inl 0)), some (.inr (.inl 30)), some (.inr (.inl 47)), some (.inl i), o5, o6], [], H) lawQ := by
  intro m
  induction m with
  | zero => intro q i o5 o6 H _ _ _ _ _ _ h; exact absurd h (by omega)
  | succ m ih =>
    intro q i o5 o6 H hH ht tS hi0 hq hi1 hm
    obtain ⟨n, D, s, p, c⟩ := H
    have hS : bS s := hH.1
    have hC : bC D c := hH.2.1
    have hW : wp q s n D p s := hH.2.2.1
    have hD : wd n p := hH.2.2.2
    have tS : tiS s p c := tS
    obtain ⟨E, hcE, hrE⟩ := tS
    have ht : tie s := ht
    unfold tie at ht
    have hd : 12 ≤ 12 := Nat.le_refl 12
    refine tt_k 2 (S' := (26, [some (.inr (.inl 1000004)), some (.inr (.inl 0)), some (.inr (.inl 30)), some (.inr (.inl 47)), some (.inl i), o5, o6], [.inr (.inl 1000004), .inl i], n, D, s, p, c)) rfl ?_
    refine tt_lno (j := 4) rfl hs ?_
    show tt Zi 12 0 (27, [some (.inr (.inl 1000004)), some (.inr (.inl 0)), some (.inr (.inl 30)), some (.inr (.inl 47)), some (.inl i), o5, o6], [.inl (L : Int), .inl i], n, D, s, p, c) _
    refine tt_k 2 (S' := (30, [some (.inr (.inl 1000004)), some (.inr (.inl 0)), some (.inr (.inl 30)), some (.inr (.inl 47)), some (.inl i), o5, o6], [.inl ((L : Int) - 9), .inl i], n, D, s, p, c)) rfl ?_
    refine tb_gt (x := i) (y := ((L : Int) - 9)) rfl rfl (by omega) (fun h1 => ?_) (fun h1 => ?_)
    · show tt Zi 12 0 (827, [some (.inr (.inl 1000004)), some (.inr (.inl 0)), some (.inr (.inl 30)), some (.inr (.inl 47)), some (.inl i), o5, o6], [], n, D, s, p, c) _
      refine tt_k 1 (S' := (828, [some (.inr (.inl 1000004)), some (.inr (.inl 0)), some (.inr (.inl 30)), some (.inr (.inl 47)), some (.inl i), o5, o6], [.inl 1], n, D, s, p, c)) rfl ?_
      exact tt_rtb rfl rfl (by omega) ⟨rfl, _, cW_mono (q := q) ⟨hS, hC, hW⟩ (by omega)⟩
    · show tt Zi 12 0 (33, [some (.inr (.inl 1000004)), some (.inr (.inl 0)), some (.inr (.inl 30)), some (.inr (.inl 47)), some (.inl i), o5, o6], [], n, D, s, p, c) _
      refine tt_k 2 (S' := (36, [some (.inr (.inl 1000004)), some (.inr (.inl 0)), some (.inr (.inl 30)), some (.inr (.inl 47)), some (.inl i), o5, o6], [.inl i, .inr (.inl 1000004)], n, D, s, p, c)) rfl ?_
      refine tt_stat (j := 4) (i := i) rfl hs (by omega) ?_
      show tt Zi 12 0 (37, [some (.inr (.inl 1000004)), some (.inr (.inl 0)), some (.inr (.inl 30)), some (.inr (.inl 47)), some (.inl i), o5, o6], [.inl (xs (i).toNat)], n, D, s, p, c) _
      have b2 := hxs (i).toNat
      refine tt_k 2 (S' := (40, [some (.inr (.inl 1000004)), some (.inr (.inl 0)), some (.inr (.inl 30)), some (.inr (.inl 47)), some (.inl i), o5, o6], [.inl ((mi_and (xs (i).toNat) 15))], n, D, s, p, c)) rfl ?_
      have e3 := mi_and15 (xs (i).toNat)
      by_cases h4 : (mi_and (xs (i).toNat) 15) = 0
      · have h5 := h4
        refine tt_tsw (x := (mi_and (xs (i).toNat) 15)) (off := 80) rfl (by omega) (by omega) (by rw [h4]; rfl) rfl ?_
        show tt Zi 12 0 (120, [some (.inr (.inl 1000004)), some (.inr (.inl 0)), some (.inr (.inl 30)), some (.inr (.inl 47)), some (.inl i), o5, o6], [], n, D, s, p, c) _
        refine tt_k 5 (S' := (126, [some (.inr (.inl 1000004)), some (.inr (.inl 0)), some (.inr (.inl 30)), some (.inr (.inl 47)), some (.inl i), o5, o6], [.inl (i + 1), .inr (.inl 1000004), .inr (.inl 0)], n, D, s, p, c)) rfl ?_
        refine tt_stat (j := 4) (i := (i + 1)) rfl hs (by omega) ?_
        show tt Zi 12 0 (127, [some (.inr (.inl 1000004)), some (.inr (.inl 0)), some (.inr (.inl 30)), some (.inr (.inl 47)), some (.inl i), o5, o6], [.inl ((xs ((i + 1)).toNat)), .inr (.inl 0)], n, D, s, p, c) _
        have b6 := hxs ((i + 1)).toNat
        refine tt_k 4 (S' := (132, [some (.inr (.inl 1000004)), some (.inr (.inl 0)), some (.inr (.inl 30)), some (.inr (.inl 47)), some (.inl i), o5, o6], [.inl (i + 2), .inr (.inl 1000004), .inl ((xs ((i + 1)).toNat)), .inr (.inl 0)], n, D, s, p, c)) rfl ?_
        refine tt_stat (j := 4) (i := (i + 2)) rfl hs (by omega) ?_
        show tt Zi 12 0 (133, [some (.inr (.inl 1000004)), some (.inr (.inl 0)), some (.inr (.inl 30)), some (.inr (.inl 47)), some (.inl i), o5, o6], [.inl ((xs ((i + 2)).toNat)), .inl ((xs ((i + 1)).toNat)), .inr (.inl 0)], n, D, s, p, c) _
        have b7 := hxs ((i + 2)).toNat
        refine tt_k 4 (S' := (138, [some (.inr (.inl 1000004)), some (.inr (.inl 0)), some (.inr (.inl 30)), some (.inr (.inl 47)), some (.inl i), o5, o6], [.inl (i + 3), .inr (.inl 1000004), .inl ((xs ((i + 2)).toNat)), .inl ((xs ((i + 1)).toNat)), .inr (.inl 0)], n, D, s, p, c)) rfl ?_
        refine tt_stat (j := 4) (i := (i + 3)) rfl hs (by omega) ?_
        show tt Zi 12 0 (139, [some (.inr (.inl 1000004)), some (.inr (.inl 0)), some (.inr (.inl 30)), some (.inr (.inl 47)), some (.inl i), o5, o6], [.inl ((xs ((i + 3)).toNat)), .inl ((xs ((i + 2)).toNat)), .inl ((xs ((i + 1)).toNat)), .inr (.inl 0)], n, D, s, p, c) _
        have b8 := hxs ((i + 3)).toNat
        refine tt_k 4 (S' := (144, [some (.inr (.inl 1000004)), some (.inr (.inl 0)), some (.inr (.inl 30)), some (.inr (.inl 47)), some (.inl i), o5, o6], [.inl (i + 4), .inr (.inl 1000004), .inl ((xs ((i + 3)).toNat)), .inl ((xs ((i + 2)).toNat)), .inl ((xs ((i + 1)).toNat)), .inr (.inl 0)], n, D, s, p, c)) rfl ?_
        refine tt_stat (j := 4) (i := (i + 4)) rfl hs (by omega) ?_
        show tt Zi 12 0 (145, [some (.inr (.inl 1000004)), some (.inr (.inl 0)), some (.inr (.inl 30)), some (.inr (.inl 47)), some (.inl i), o5, o6], [.inl ((xs ((i + 4)).toNat)), .inl ((xs ((i + 3)).toNat)), .inl ((xs ((i + 2)).toNat)), .inl ((xs ((i + 1)).toNat)), .inr (.inl 0)], n, D, s, p, c) _
        have b9 := hxs ((i + 4)).toNat
        refine tt_cl (by omega) rfl (h_canvas (Zi := Zi) (q := q) (n := n) (D := D) (s := s) (p := p) (c := c) (by omega) hz (by omega) hD hS hC (wp_rg hW) ((xs ((i + 1)).toNat)) ((xs ((i + 2)).toNat)) ((xs ((i + 3)).toNat)) ((xs ((i + 4)).toNat)) (by omega) (by omega) (by omega) (by omega)) ?_
        rintro _ ⟨n10, D11, s12, p13, c14⟩ ⟨r16, rfl, b17, hY15, k18, k19, k20⟩
        have hS12 : bS s12 := hY15.1
        have hC14 : bC D11 c14 := hY15.2.1
        have hW13 : wp _ _ n10 D11 p13 s12 := hY15.2.2.1
        have FKc : fk p c n10 p13 c14 [3, 104] := hY15.2.2.2
        show tt Zi 12 0 (148, [some (.inr (.inl 1000004)), some (.inr (.inl 0)), some (.inr (.inl 30)), some (.inr (.inl 47)), some (.inl i), o5, o6], [.inl r16], n10, D11, s12, p13, c14) _
        have tc100 : s12 100 = if r16 = 0 then (xs ((i + 1)).toNat) else (s 100) := gz_if (hW13.gz 100 rfl)
        have tc101 : s12 101 = if r16 = 0 then (xs ((i + 2)).toNat) else (s 101) := gz_if (hW13.gz 101 rfl)
        have tc102 : s12 102 = if r16 = 0 then (xs ((i + 3)).toNat) else (s 102) := gz_if (hW13.gz 102 rfl)
        have tc103 : s12 103 = if r16 = 0 then (xs ((i + 4)).toNat) else (s 103) := gz_if (hW13.gz 103 rfl)
        have tc3001 : s12 3001 = (s 3001) := gz_is (hW13.gz 3001 rfl) rfl
        have tc3002 : s12 3002 = (s 3002) := gz_is (hW13.gz 3002 rfl) rfl
        have tc3003 : s12 3003 = (s 3003) := gz_is (hW13.gz 3003 rfl) rfl
        have tc3004 : s12 3004 = (s 3004) := gz_is (hW13.gz 3004 rfl) rfl
        refine tt_k 6 (S' := (156, [some (.inr (.inl 1000004)), some (.inr (.inl 0)), some (.inr (.inl 30)), some (.inr (.inl 47)), some (.inl i), some (.inl r16), o6], [.inl (i + 1), .inr (.inl 1000004), .inr (.inl 30)], n10, D11, s12, p13, c14)) rfl ?_
        refine tt_stat (j := 4) (i := (i + 1)) rfl hs (by omega) ?_
        show tt Zi 12 0 (157, [some (.inr (.inl 1000004)), some (.inr (.inl 0)), some (.inr (.inl 30)), some (.inr (.inl 47)), some (.inl i), some (.inl r16), o6], [.inl ((xs ((i + 1)).toNat)), .inr (.inl 30)], n10, D11, s12, p13, c14) _
        refine tt_k 4 (S' := (162, [some (.inr (.inl 1000004)), some (.inr (.inl 0)), some (.inr (.inl 30)), some (.inr (.inl 47)), some (.inl i), some (.inl r16), o6], [.inl (i + 2), .inr (.inl 1000004), .inl ((xs ((i + 1)).toNat)), .inr (.inl 30)], n10, D11, s12, p13, c14)) rfl ?_
        refine tt_stat (j := 4) (i := (i + 2)) rfl hs (by omega) ?_
        show tt Zi 12 0 (163, [some (.inr (.inl 1000004)), some (.inr (.inl 0)), some (.inr (.inl 30)), some (.inr (.inl 47)), some (.inl i), some (.inl r16), o6], [.inl ((xs ((i + 2)).toNat)), .inl ((xs ((i + 1)).toNat)), .inr (.inl 30)], n10, D11, s12, p13, c14) _
        refine tt_k 4 (S' := (168, [some (.inr (.inl 1000004)), some (.inr (.inl 0)), some (.inr (.inl 30)), some (.inr (.inl 47)), some (.inl i), some (.inl r16), o6], [.inl (i + 3), .inr (.inl 1000004), .inl ((xs ((i + 2)).toNat)), .inl ((xs ((i + 1)).toNat)), .inr (.inl 30)], n10, D11, s12, p13, c14)) rfl ?_
        refine tt_stat (j := 4) (i := (i + 3)) rfl hs (by omega) ?_
        show tt Zi 12 0 (169, [some (.inr (.inl 1000004)), some (.inr (.inl 0)), some (.inr (.inl 30)), some (.inr (.inl 47)), some (.inl i), some (.inl r16), o6], [.inl ((xs ((i + 3)).toNat)), .inl ((xs ((i + 2)).toNat)), .inl ((xs ((i + 1)).toNat)), .inr (.inl 30)], n10, D11, s12, p13, c14) _
        refine tt_k 4 (S' := (174, [some (.inr (.inl 1000004)), some (.inr (.inl 0)), some (.inr (.inl 30)), some (.inr (.inl 47)), some (.inl i), some (.inl r16), o6], [.inl (i + 4), .inr (.inl 1000004), .inl ((xs ((i + 3)).toNat)), .inl ((xs ((i + 2)).toNat)), .inl ((xs ((i + 1)).toNat)), .inr (.inl 30)], n10, D11, s12, p13, c14)) rfl ?_
        refine tt_stat (j := 4) (i := (i + 4)) rfl hs (by omega) ?_
        show tt Zi 12 0 (175, [some (.inr (.inl 1000004)), some (.inr (.inl 0)), some (.inr (.inl 30)), some (.inr (.inl 47)), some (.inl i), some (.inl r16), o6], [.inl ((xs ((i + 4)).toNat)), .inl ((xs ((i + 3)).toNat)), .inl ((xs ((i + 2)).toNat)), .inl ((xs ((i + 1)).toNat)), .inr (.inl 30)], n10, D11, s12, p13, c14) _
        refine tt_cl (by omega) rfl (k_canvas2 (Zi := Zi) (D := D11) (s := s12) (p := p13) (c := c14) (by omega) hS12 hC14 ((xs ((i + 1)).toNat)) ((xs ((i + 2)).toNat)) ((xs ((i + 3)).toNat)) ((xs ((i + 4)).toNat)) (by omega) (by omega) (by omega) (by omega)) ?_
        rintro _ _ ⟨s21, c22, rfl, rfl, hS21, hC22, f23, g24, k25, k26, k27, k28, k29, k30, k31⟩
        have hW32 := wp_rf f23 (by decide) hW13
        show tt Zi 12 0 (178, [some (.inr (.inl 1000004)), some (.inr (.inl 0)), some (.inr (.inl 30)), some (.inr (.inl 47)), some (.inl i), some (.inl r16), o6], [], n10, D11, s21, p13, c22) _
        have te100 : s21 100 = (s12 100) := f23 100 (by decide)
        have te101 : s21 101 = (s12 101) := f23 101 (by decide)
        have te102 : s21 102 = (s12 102) := f23 102 (by decide)
        have te103 : s21 103 = (s12 103) := f23 103 (by decide)
        have ht2 : tie s21 := by
          by_cases hc : (1 ≤ (xs ((i + 1)).toNat) ∧ (xs ((i + 1)).toNat) ≤ 64) ∧ (1 ≤ (xs ((i + 2)).toNat) ∧ (xs ((i + 2)).toNat) ≤ 64) ∧ ((xs ((i + 3)).toNat) = 1 ∨ (xs ((i + 3)).toNat) = 3) ∧ (2 ≤ (xs ((i + 4)).toNat) ∧ (xs ((i + 4)).toNat) ≤ 16)
          · rcases k18 with ⟨er, _⟩ | ⟨er, hn⟩
            · rw [if_pos hc] at k26 k27 k28 k29
              rw [if_pos er] at tc100 tc101 tc102 tc103
              exact ⟨te100.trans (tc100.trans k26.symm), te101.trans (tc101.trans k27.symm), te102.trans (tc102.trans k28.symm), te103.trans (tc103.trans k29.symm)⟩
            · exact absurd hc hn
          · rcases k18 with ⟨er, hn⟩ | ⟨er, _⟩
            · exact absurd hn hc
            · have er2 : ¬ r16 = 0 := by rw [er]; decide
              rw [if_neg hc] at k26 k27 k28 k29
              rw [if_neg er2] at tc100 tc101 tc102 tc103
              exact ⟨te100.trans (tc100.trans (ht.1.trans (tc3001.symm.trans k26.symm))), te101.trans (tc101.trans (ht.2.1.trans (tc3002.symm.trans k27.symm))), te102.trans (tc102.trans (ht.2.2.1.trans (tc3003.symm.trans k28.symm))), te103.trans (tc103.trans (ht.2.2.2.trans (tc3004.symm.trans k29.symm)))⟩
        have tS2 : tiS s21 p13 c22 := tiS_cn hcE hrE FKc k18 k19 k20 g24 k30 (te100.trans tc100) (te101.trans tc101) (te102.trans tc102)
        have FKr := fk_rc FKc.1 g24 (by decide)
        clear k26 k27 k28 k29 k30 k31 tc100 tc101 tc102 tc103 tc3001 tc3002 tc3003 tc3004 te100 te101 te102 te103
        refine tt_k 3 (S' := (23, [some (.inr (.inl 1000004)), some (.inr (.inl 0)), some (.inr (.inl 30)), some (.inr (.inl 47)), some (.inl (i + 9)), some (.inl r16), o6], [], n10, D11, s21, p13, c22)) rfl ?_
        exact ih (q + 1) (i + 9) (some (.inl r16)) (o6) (n10, D11, s21, p13, c22) ⟨hS21, hC22, (wp_rg hW32), FKr.1⟩ ht2 tS2 (by omega) (by omega) (by omega) (by omega)
      by_cases h33 : (mi_and (xs (i).toNat) 15) = 1
      · have h34 := h33
        refine tt_tsw (x := (mi_and (xs (i).toNat) 15)) (off := 141) rfl (by omega) (by omega) (by rw [h33]; rfl) rfl ?_
        show tt Zi 12 0 (181, [some (.inr (.inl 1000004)), some (.inr (.inl 0)), some (.inr (.inl 30)), some (.inr (.inl 47)), some (.inl i), o5, o6], [], n, D, s, p, c) _
        refine tt_k 5 (S' := (187, [some (.inr (.inl 1000004)), some (.inr (.inl 0)), some (.inr (.inl 30)), some (.inr (.inl 47)), some (.inl i), o5, o6], [.inl (i + 1), .inr (.inl 1000004), .inr (.inl 0)], n, D, s, p, c)) rfl ?_
        refine tt_stat (j := 4) (i := (i + 1)) rfl hs (by omega) ?_
        show tt Zi 12 0 (188, [some (.inr (.inl 1000004)), some (.inr (.inl 0)), some (.inr (.inl 30)), some (.inr (.inl 47)), some (.inl i), o5, o6], [.inl ((xs ((i + 1)).toNat)), .inr (.inl 0)], n, D, s, p, c) _
        have b35 := hxs ((i + 1)).toNat
        refine tt_k 4 (S' := (193, [some (.inr (.inl 1000004)), some (.inr (.inl 0)), some (.inr (.inl 30)), some (.inr (.inl 47)), some (.inl i), o5, o6], [.inl (i + 2), .inr (.inl 1000004), .inl ((xs ((i + 1)).toNat)), .inr (.inl 0)], n, D, s, p, c)) rfl ?_
        refine tt_stat (j := 4) (i := (i + 2)) rfl hs (by omega) ?_
        show tt Zi 12 0 (194, [some (.inr (.inl 1000004)), some (.inr (.inl 0)), some (.inr (.inl 30)), some (.inr (.inl 47)), some (.inl i), o5, o6], [.inl ((xs ((i + 2)).toNat)), .inl ((xs ((i + 1)).toNat)), .inr (.inl 0)], n, D, s, p, c) _
        have b36 := hxs ((i + 2)).toNat
        refine tt_k 4 (S' := (199, [some (.inr (.inl 1000004)), some (.inr (.inl 0)), some (.inr (.inl 30)), some (.inr (.inl 47)), some (.inl i), o5, o6], [.inl (i + 3), .inr (.inl 1000004), .inl ((xs ((i + 2)).toNat)), .inl ((xs ((i + 1)).toNat)), .inr (.inl 0)], n, D, s, p, c)) rfl ?_
        refine tt_stat (j := 4) (i := (i + 3)) rfl hs (by omega) ?_
        show tt Zi 12 0 (200, [some (.inr (.inl 1000004)), some (.inr (.inl 0)), some (.inr (.inl 30)), some (.inr (.inl 47)), some (.inl i), o5, o6], [.inl ((xs ((i + 3)).toNat)), .inl ((xs ((i + 2)).toNat)), .inl ((xs ((i + 1)).toNat)), .inr (.inl 0)], n, D, s, p, c) _
        have b37 := hxs ((i + 3)).toNat
        refine tt_k 4 (S' := (205, [some (.inr (.inl 1000004)), some (.inr (.inl 0)), some (.inr (.inl 30)), some (.inr (.inl 47)), some (.inl i), o5, o6], [.inl (i + 4), .inr (.inl 1000004), .inl ((xs ((i + 3)).toNat)), .inl ((xs ((i + 2)).toNat)), .inl ((xs ((i + 1)).toNat)), .inr (.inl 0)], n, D, s, p, c)) rfl ?_
        refine tt_stat (j := 4) (i := (i + 4)) rfl hs (by omega) ?_
        show tt Zi 12 0 (206, [some (.inr (.inl 1000004)), some (.inr (.inl 0)), some (.inr (.inl 30)), some (.inr (.inl 47)), some (.inl i), o5, o6], [.inl ((xs ((i + 4)).toNat)), .inl ((xs ((i + 3)).toNat)), .inl ((xs ((i + 2)).toNat)), .inl ((xs ((i + 1)).toNat)), .inr (.inl 0)], n, D, s, p, c) _
        have b38 := hxs ((i + 4)).toNat
        refine tt_k 4 (S' := (211, [some (.inr (.inl 1000004)), some (.inr (.inl 0)), some (.inr (.inl 30)), some (.inr (.inl 47)), some (.inl i), o5, o6], [.inl (i + 5), .inr (.inl 1000004), .inl ((xs ((i + 4)).toNat)), .inl ((xs ((i + 3)).toNat)), .inl ((xs ((i + 2)).toNat)), .inl ((xs ((i + 1)).toNat)), .inr (.inl 0)], n, D, s, p, c)) rfl ?_
        refine tt_stat (j := 4) (i := (i + 5)) rfl hs (by omega) ?_
        show tt Zi 12 0 (212, [some (.inr (.inl 1000004)), some (.inr (.inl 0)), some (.inr (.inl 30)), some (.inr (.inl 47)), some (.inl i), o5, o6], [.inl ((xs ((i + 5)).toNat)), .inl ((xs ((i + 4)).toNat)), .inl ((xs ((i + 3)).toNat)), .inl ((xs ((i + 2)).toNat)), .inl ((xs ((i + 1)).toNat)), .inr (.inl 0)], n, D, s, p, c) _
        have b39 := hxs ((i + 5)).toNat
        refine tt_k 4 (S' := (218, [some (.inr (.inl 1000004)), some (.inr (.inl 0)), some (.inr (.inl 30)), some (.inr (.inl 47)), some (.inl i), o5, o6], [.inl (i + 6), .inr (.inl 1000004), .inl ((xs ((i + 5)).toNat)), .inl ((xs ((i + 4)).toNat)), .inl ((xs ((i + 3)).toNat)), .inl ((xs ((i + 2)).toNat)), .inl ((xs ((i + 1)).toNat)), .inr (.inl 0)], n, D, s, p, c)) rfl ?_
        refine tt_stat (j := 4) (i := (i + 6)) rfl hs (by omega) ?_
        show tt Zi 12 0 (219, [some (.inr (.inl 1000004)), some (.inr (.inl 0)), some (.inr (.inl 30)), some (.inr (.inl 47)), some (.inl i), o5, o6], [.inl ((xs ((i + 6)).toNat)), .inl ((xs ((i + 5)).toNat)), .inl ((xs ((i + 4)).toNat)), .inl ((xs ((i + 3)).toNat)), .inl ((xs ((i + 2)).toNat)), .inl ((xs ((i + 1)).toNat)), .inr (.inl 0)], n, D, s, p, c) _
        have b40 := hxs ((i + 6)).toNat
        refine tt_k 4 (S' := (225, [some (.inr (.inl 1000004)), some (.inr (.inl 0)), some (.inr (.inl 30)), some (.inr (.inl 47)), some (.inl i), o5, o6], [.inl (i + 7), .inr (.inl 1000004), .inl ((xs ((i + 6)).toNat)), .inl ((xs ((i + 5)).toNat)), .inl ((xs ((i + 4)).toNat)), .inl ((xs ((i + 3)).toNat)), .inl ((xs ((i + 2)).toNat)), .inl ((xs ((i + 1)).toNat)), .inr (.inl 0)], n, D, s, p, c)) rfl ?_
        refine tt_stat (j := 4) (i := (i + 7)) rfl hs (by omega) ?_
        show tt Zi 12 0 (226, [some (.inr (.inl 1000004)), some (.inr (.inl 0)), some (.inr (.inl 30)), some (.inr (.inl 47)), some (.inl i), o5, o6], [.inl ((xs ((i + 7)).toNat)), .inl ((xs ((i + 6)).toNat)), .inl ((xs ((i + 5)).toNat)), .inl ((xs ((i + 4)).toNat)), .inl ((xs ((i + 3)).toNat)), .inl ((xs ((i + 2)).toNat)), .inl ((xs ((i + 1)).toNat)), .inr (.inl 0)], n, D, s, p, c) _
        have b41 := hxs ((i + 7)).toNat
        refine tt_k 4 (S' := (232, [some (.inr (.inl 1000004)), some (.inr (.inl 0)), some (.inr (.inl 30)), some (.inr (.inl 47)), some (.inl i), o5, o6], [.inl (i + 8), .inr (.inl 1000004), .inl ((xs ((i + 7)).toNat)), .inl ((xs ((i + 6)).toNat)), .inl ((xs ((i + 5)).toNat)), .inl ((xs ((i + 4)).toNat)), .inl ((xs ((i + 3)).toNat)), .inl ((xs ((i + 2)).toNat)), .inl ((xs ((i + 1)).toNat)), .inr (.inl 0)], n, D, s, p, c)) rfl ?_
        refine tt_stat (j := 4) (i := (i + 8)) rfl hs (by omega) ?_
        show tt Zi 12 0 (233, [some (.inr (.inl 1000004)), some (.inr (.inl 0)), some (.inr (.inl 30)), some (.inr (.inl 47)), some (.inl i), o5, o6], [.inl ((xs ((i + 8)).toNat)), .inl ((xs ((i + 7)).toNat)), .inl ((xs ((i + 6)).toNat)), .inl ((xs ((i + 5)).toNat)), .inl ((xs ((i + 4)).toNat)), .inl ((xs ((i + 3)).toNat)), .inl ((xs ((i + 2)).toNat)), .inl ((xs ((i + 1)).toNat)), .inr (.inl 0)], n, D, s, p, c) _
        have b42 := hxs ((i + 8)).toNat
        refine tt_cl (by omega) rfl (h_draw (Zi := Zi) (q := q) (n := n) (D := D) (s := s) (p := p) (c := c) (by omega) hz (by omega) hD hS hC (wp_rg hW) E ((xs ((i + 1)).toNat)) ((xs ((i + 2)).toNat)) ((xs ((i + 3)).toNat)) ((xs ((i + 4)).toNat)) ((xs ((i + 5)).toNat)) ((xs ((i + 6)).toNat)) ((xs ((i + 7)).toNat)) ((xs ((i + 8)).toNat)) (by omega) (by omega) (by omega) (by omega) (by omega) (by omega) (by omega) (by omega) hcE) ?_
        rintro _ ⟨n43, D44, s45, p46, c47⟩ ⟨r49, rfl, b50, hY48, k51, k52, k53⟩
        have hS45 : bS s45 := hY48.1
        have hC47 : bC D44 c47 := hY48.2.1
        have hW46 : wp _ _ n43 D44 p46 s45 := hY48.2.2.1
        have FKc : fk p c n43 p46 c47 [104] := hY48.2.2.2
        show tt Zi 12 0 (236, [some (.inr (.inl 1000004)), some (.inr (.inl 0)), some (.inr (.inl 30)), some (.inr (.inl 47)), some (.inl i), o5, o6], [.inl r49], n43, D44, s45, p46, c47) _
        have tc100 : s45 100 = (s 100) := hW46.gz 100 rfl
        have tc101 : s45 101 = (s 101) := hW46.gz 101 rfl
        have tc102 : s45 102 = (s 102) := hW46.gz 102 rfl
        have tc103 : s45 103 = (s 103) := hW46.gz 103 rfl
        have tc3001 : s45 3001 = (s 3001) := hW46.gz 3001 rfl
        have tc3002 : s45 3002 = (s 3002) := hW46.gz 3002 rfl
        have tc3003 : s45 3003 = (s 3003) := hW46.gz 3003 rfl
        have tc3004 : s45 3004 = (s 3004) := hW46.gz 3004 rfl
        refine tt_k 6 (S' := (244, [some (.inr (.inl 1000004)), some (.inr (.inl 0)), some (.inr (.inl 30)), some (.inr (.inl 47)), some (.inl i), some (.inl r49), o6], [.inl (i + 1), .inr (.inl 1000004), .inr (.inl 30)], n43, D44, s45, p46, c47)) rfl ?_
        refine tt_stat (j := 4) (i := (i + 1)) rfl hs (by omega) ?_
        show tt Zi 12 0 (245, [some (.inr (.inl 1000004)), some (.inr (.inl 0)), some (.inr (.inl 30)), some (.inr (.inl 47)), some (.inl i), some (.inl r49), o6], [.inl ((xs ((i + 1)).toNat)), .inr (.inl 30)], n43, D44, s45, p46, c47) _
        refine tt_k 4 (S' := (250, [some (.inr (.inl 1000004)), some (.inr (.inl 0)), some (.inr (.inl 30)), some (.inr (.inl 47)), some (.inl i), some (.inl r49), o6], [.inl (i + 2), .inr (.inl 1000004), .inl ((xs ((i + 1)).toNat)), .inr (.inl 30)], n43, D44, s45, p46, c47)) rfl ?_
        refine tt_stat (j := 4) (i := (i + 2)) rfl hs (by omega) ?_
        show tt Zi 12 0 (251, [some (.inr (.inl 1000004)), some (.inr (.inl 0)), some (.inr (.inl 30)), some (.inr (.inl 47)), some (.inl i), some (.inl r49), o6], [.inl ((xs ((i + 2)).toNat)), .inl ((xs ((i + 1)).toNat)), .inr (.inl 30)], n43, D44, s45, p46, c47) _
        refine tt_k 4 (S' := (256, [some (.inr (.inl 1000004)), some (.inr (.inl 0)), some (.inr (.inl 30)), some (.inr (.inl 47)), some (.inl i), some (.inl r49), o6], [.inl (i + 3), .inr (.inl 1000004), .inl ((xs ((i + 2)).toNat)), .inl ((xs ((i + 1)).toNat)), .inr (.inl 30)], n43, D44, s45, p46, c47)) rfl ?_
        refine tt_stat (j := 4) (i := (i + 3)) rfl hs (by omega) ?_
        show tt Zi 12 0 (257, [some (.inr (.inl 1000004)), some (.inr (.inl 0)), some (.inr (.inl 30)), some (.inr (.inl 47)), some (.inl i), some (.inl r49), o6], [.inl ((xs ((i + 3)).toNat)), .inl ((xs ((i + 2)).toNat)), .inl ((xs ((i + 1)).toNat)), .inr (.inl 30)], n43, D44, s45, p46, c47) _
        refine tt_k 4 (S' := (262, [some (.inr (.inl 1000004)), some (.inr (.inl 0)), some (.inr (.inl 30)), some (.inr (.inl 47)), some (.inl i), some (.inl r49), o6], [.inl (i + 4), .inr (.inl 1000004), .inl ((xs ((i + 3)).toNat)), .inl ((xs ((i + 2)).toNat)), .inl ((xs ((i + 1)).toNat)), .inr (.inl 30)], n43, D44, s45, p46, c47)) rfl ?_
        refine tt_stat (j := 4) (i := (i + 4)) rfl hs (by omega) ?_
        show tt Zi 12 0 (263, [some (.inr (.inl 1000004)), some (.inr (.inl 0)), some (.inr (.inl 30)), some (.inr (.inl 47)), some (.inl i), some (.inl r49), o6], [.inl ((xs ((i + 4)).toNat)), .inl ((xs ((i + 3)).toNat)), .inl ((xs ((i + 2)).toNat)), .inl ((xs ((i + 1)).toNat)), .inr (.inl 30)], n43, D44, s45, p46, c47) _
        refine tt_k 4 (S' := (268, [some (.inr (.inl 1000004)), some (.inr (.inl 0)), some (.inr (.inl 30)), some (.inr (.inl 47)), some (.inl i), some (.inl r49), o6], [.inl (i + 5), .inr (.inl 1000004), .inl ((xs ((i + 4)).toNat)), .inl ((xs ((i + 3)).toNat)), .inl ((xs ((i + 2)).toNat)), .inl ((xs ((i + 1)).toNat)), .inr (.inl 30)], n43, D44, s45, p46, c47)) rfl ?_
        refine tt_stat (j := 4) (i := (i + 5)) rfl hs (by omega) ?_
        show tt Zi 12 0 (269, [some (.inr (.inl 1000004)), some (.inr (.inl 0)), some (.inr (.inl 30)), some (.inr (.inl 47)), some (.inl i), some (.inl r49), o6], [.inl ((xs ((i + 5)).toNat)), .inl ((xs ((i + 4)).toNat)), .inl ((xs ((i + 3)).toNat)), .inl ((xs ((i + 2)).toNat)), .inl ((xs ((i + 1)).toNat)), .inr (.inl 30)], n43, D44, s45, p46, c47) _
        refine tt_k 4 (S' := (275, [some (.inr (.inl 1000004)), some (.inr (.inl 0)), some (.inr (.inl 30)), some (.inr (.inl 47)), some (.inl i), some (.inl r49), o6], [.inl (i + 6), .inr (.inl 1000004), .inl ((xs ((i + 5)).toNat)), .inl ((xs ((i + 4)).toNat)), .inl ((xs ((i + 3)).toNat)), .inl ((xs ((i + 2)).toNat)), .inl ((xs ((i + 1)).toNat)), .inr (.inl 30)], n43, D44, s45, p46, c47)) rfl ?_
        refine tt_stat (j := 4) (i := (i + 6)) rfl hs (by omega) ?_
        show tt Zi 12 0 (276, [some (.inr (.inl 1000004)), some (.inr (.inl 0)), some (.inr (.inl 30)), some (.inr (.inl 47)), some (.inl i), some (.inl r49), o6], [.inl ((xs ((i + 6)).toNat)), .inl ((xs ((i + 5)).toNat)), .inl ((xs ((i + 4)).toNat)), .inl ((xs ((i + 3)).toNat)), .inl ((xs ((i + 2)).toNat)), .inl ((xs ((i + 1)).toNat)), .inr (.inl 30)], n43, D44, s45, p46, c47) _
        refine tt_k 4 (S' := (282, [some (.inr (.inl 1000004)), some (.inr (.inl 0)), some (.inr (.inl 30)), some (.inr (.inl 47)), some (.inl i), some (.inl r49), o6], [.inl (i + 7), .inr (.inl 1000004), .inl ((xs ((i + 6)).toNat)), .inl ((xs ((i + 5)).toNat)), .inl ((xs ((i + 4)).toNat)), .inl ((xs ((i + 3)).toNat)), .inl ((xs ((i + 2)).toNat)), .inl ((xs ((i + 1)).toNat)), .inr (.inl 30)], n43, D44, s45, p46, c47)) rfl ?_
        refine tt_stat (j := 4) (i := (i + 7)) rfl hs (by omega) ?_
        show tt Zi 12 0 (283, [some (.inr (.inl 1000004)), some (.inr (.inl 0)), some (.inr (.inl 30)), some (.inr (.inl 47)), some (.inl i), some (.inl r49), o6], [.inl ((xs ((i + 7)).toNat)), .inl ((xs ((i + 6)).toNat)), .inl ((xs ((i + 5)).toNat)), .inl ((xs ((i + 4)).toNat)), .inl ((xs ((i + 3)).toNat)), .inl ((xs ((i + 2)).toNat)), .inl ((xs ((i + 1)).toNat)), .inr (.inl 30)], n43, D44, s45, p46, c47) _
        refine tt_k 4 (S' := (289, [some (.inr (.inl 1000004)), some (.inr (.inl 0)), some (.inr (.inl 30)), some (.inr (.inl 47)), some (.inl i), some (.inl r49), o6], [.inl (i + 8), .inr (.inl 1000004), .inl ((xs ((i + 7)).toNat)), .inl ((xs ((i + 6)).toNat)), .inl ((xs ((i + 5)).toNat)), .inl ((xs ((i + 4)).toNat)), .inl ((xs ((i + 3)).toNat)), .inl ((xs ((i + 2)).toNat)), .inl ((xs ((i + 1)).toNat)), .inr (.inl 30)], n43, D44, s45, p46, c47)) rfl ?_
        refine tt_stat (j := 4) (i := (i + 8)) rfl hs (by omega) ?_
        show tt Zi 12 0 (290, [some (.inr (.inl 1000004)), some (.inr (.inl 0)), some (.inr (.inl 30)), some (.inr (.inl 47)), some (.inl i), some (.inl r49), o6], [.inl ((xs ((i + 8)).toNat)), .inl ((xs ((i + 7)).toNat)), .inl ((xs ((i + 6)).toNat)), .inl ((xs ((i + 5)).toNat)), .inl ((xs ((i + 4)).toNat)), .inl ((xs ((i + 3)).toNat)), .inl ((xs ((i + 2)).toNat)), .inl ((xs ((i + 1)).toNat)), .inr (.inl 30)], n43, D44, s45, p46, c47) _
        have eq3001 : (s45 3001) = s 100 := tc3001.trans ht.1.symm
        have eq3002 : (s45 3002) = s 101 := tc3002.trans ht.2.1.symm
        have eq3003 : (s45 3003) = s 102 := tc3003.trans ht.2.2.1.symm
        have eq3004 : (s45 3004) = s 103 := tc3004.trans ht.2.2.2.symm
        have hcr : cr E (s45 3001) (s45 3002) (s45 3003) (c47 31) := by rw [eq3001, eq3002, eq3003, fk_c (k := 31) FKc (by decide)]; exact hrE
        refine tt_cl (by omega) rfl (k_draw2 (Zi := Zi) (D := D44) (s := s45) (p := p46) (c := c47) (by omega) hS45 hC47 E ((xs ((i + 1)).toNat)) ((xs ((i + 2)).toNat)) ((xs ((i + 3)).toNat)) ((xs ((i + 4)).toNat)) ((xs ((i + 5)).toNat)) ((xs ((i + 6)).toNat)) ((xs ((i + 7)).toNat)) ((xs ((i + 8)).toNat)) (by omega) (by omega) (by omega) (by omega) (by omega) (by omega) (by omega) (by omega) hcr) ?_
        rintro _ _ ⟨s54, c55, rfl, rfl, hS54, hC55, f56, g57, k58, k59, k60⟩
        have hW61 := wp_rf f56 (by decide) hW46
        show tt Zi 12 0 (293, [some (.inr (.inl 1000004)), some (.inr (.inl 0)), some (.inr (.inl 30)), some (.inr (.inl 47)), some (.inl i), some (.inl r49), o6], [], n43, D44, s54, p46, c55) _
        have te100 : s54 100 = (s45 100) := f56 100 (by decide)
        have te101 : s54 101 = (s45 101) := f56 101 (by decide)
        have te102 : s54 102 = (s45 102) := f56 102 (by decide)
        have te103 : s54 103 = (s45 103) := f56 103 (by decide)
        have te3001 : s54 3001 = (s45 3001) := f56 3001 (by decide)
        have te3002 : s54 3002 = (s45 3002) := f56 3002 (by decide)
        have te3003 : s54 3003 = (s45 3003) := f56 3003 (by decide)
        have te3004 : s54 3004 = (s45 3004) := f56 3004 (by decide)
        have ht2 : tie s54 := ⟨te100.trans (tc100.trans (ht.1.trans (tc3001.symm.trans te3001.symm))), te101.trans (tc101.trans (ht.2.1.trans (tc3002.symm.trans te3002.symm))), te102.trans (tc102.trans (ht.2.2.1.trans (tc3003.symm.trans te3003.symm))), te103.trans (tc103.trans (ht.2.2.2.trans (tc3004.symm.trans te3004.symm)))⟩
        have FKr := fk_rc FKc.1 g57 (by decide)
        have hqd := dw_eq (k51) k58 eq3001 eq3002 eq3003 eq3004
        have tS2 : tiS s54 p46 c55 := tiS_dr hcE hrE FKc k52 k53 g57 k59 k60 hqd eq3001 eq3002 eq3003 eq3004 (te100.trans tc100) (te101.trans tc101) (te102.trans tc102)
        clear k58 k59 k60 eq3001 eq3002 eq3003 eq3004
        clear tc100 tc101 tc102 tc103 tc3001 tc3002 tc3003 tc3004 te100 te101 te102 te103 te3001 te3002 te3003 te3004
        refine tt_k 3 (S' := (23, [some (.inr (.inl 1000004)), some (.inr (.inl 0)), some (.inr (.inl 30)), some (.inr (.inl 47)), some (.inl (i + 9)), some (.inl r49), o6], [], n43, D44, s54, p46, c55)) rfl ?_
        exact ih (q + 1) (i + 9) (some (.inl r49)) (o6) (n43, D44, s54, p46, c55) ⟨hS54, hC55, (wp_rg hW61), FKr.1⟩ ht2 tS2 (by omega) (by omega) (by omega) (by omega)
      by_cases h62 : (mi_and (xs (i).toNat) 15) = 2
      · have h63 := h62
        refine tt_tsw (x := (mi_and (xs (i).toNat) 15)) (off := 256) rfl (by omega) (by omega) (by rw [h62]; rfl) rfl ?_
        show tt Zi 12 0 (296, [some (.inr (.inl 1000004)), some (.inr (.inl 0)), some (.inr (.inl 30)), some (.inr (.inl 47)), some (.inl i), o5, o6], [], n, D, s, p, c) _
        refine tt_k 5 (S' := (302, [some (.inr (.inl 1000004)), some (.inr (.inl 0)), some (.inr (.inl 30)), some (.inr (.inl 47)), some (.inl i), o5, o6], [.inl (i + 1), .inr (.inl 1000004), .inr (.inl 0)], n, D, s, p, c)) rfl ?_
        refine tt_stat (j := 4) (i := (i + 1)) rfl hs (by omega) ?_
        show tt Zi 12 0 (303, [some (.inr (.inl 1000004)), some (.inr (.inl 0)), some (.inr (.inl 30)), some (.inr (.inl 47)), some (.inl i), o5, o6], [.inl ((xs ((i + 1)).toNat)), .inr (.inl 0)], n, D, s, p, c) _
        have b64 := hxs ((i + 1)).toNat
        refine tt_k 4 (S' := (308, [some (.inr (.inl 1000004)), some (.inr (.inl 0)), some (.inr (.inl 30)), some (.inr (.inl 47)), some (.inl i), o5, o6], [.inl (i + 2), .inr (.inl 1000004), .inl ((xs ((i + 1)).toNat)), .inr (.inl 0)], n, D, s, p, c)) rfl ?_
        refine tt_stat (j := 4) (i := (i + 2)) rfl hs (by omega) ?_
        show tt Zi 12 0 (309, [some (.inr (.inl 1000004)), some (.inr (.inl 0)), some (.inr (.inl 30)), some (.inr (.inl 47)), some (.inl i), o5, o6], [.inl ((xs ((i + 2)).toNat)), .inl ((xs ((i + 1)).toNat)), .inr (.inl 0)], n, D, s, p, c) _
        have b65 := hxs ((i + 2)).toNat
        refine tt_k 4 (S' := (314, [some (.inr (.inl 1000004)), some (.inr (.inl 0)), some (.inr (.inl 30)), some (.inr (.inl 47)), some (.inl i), o5, o6], [.inl (i + 3), .inr (.inl 1000004), .inl ((xs ((i + 2)).toNat)), .inl ((xs ((i + 1)).toNat)), .inr (.inl 0)], n, D, s, p, c)) rfl ?_
        refine tt_stat (j := 4) (i := (i + 3)) rfl hs (by omega) ?_
        show tt Zi 12 0 (315, [some (.inr (.inl 1000004)), some (.inr (.inl 0)), some (.inr (.inl 30)), some (.inr (.inl 47)), some (.inl i), o5, o6], [.inl ((xs ((i + 3)).toNat)), .inl ((xs ((i + 2)).toNat)), .inl ((xs ((i + 1)).toNat)), .inr (.inl 0)], n, D, s, p, c) _
        have b66 := hxs ((i + 3)).toNat
        refine tt_k 1 (S' := (316, [some (.inr (.inl 1000004)), some (.inr (.inl 0)), some (.inr (.inl 30)), some (.inr (.inl 47)), some (.inl i), o5, o6], [.inr (.inl 47), .inl ((xs ((i + 3)).toNat)), .inl ((xs ((i + 2)).toNat)), .inl ((xs ((i + 1)).toNat)), .inr (.inl 0)], n, D, s, p, c)) rfl ?_
        refine tt_cl (by omega) rfl (h_at (Zi := Zi) (q := q) (n := n) (D := D) (s := s) (p := p) (c := c) (by omega) hz (by omega) hD hS hC (wp_rg hW) ((xs ((i + 1)).toNat)) ((xs ((i + 2)).toNat)) ((xs ((i + 3)).toNat)) (by omega) (by omega) (by omega)) ?_
        rintro _ ⟨n67, D68, s69, p70, c71⟩ ⟨r73, rfl, b74, hY72, k75⟩
        have hS69 : bS s69 := hY72.1
        have hC71 : bC D68 c71 := hY72.2.1
        have hW70 : wp _ _ n67 D68 p70 s69 := hY72.2.2.1
        have FKc : fk p c n67 p70 c71 [47] := hY72.2.2.2
        show tt Zi 12 0 (319, [some (.inr (.inl 1000004)), some (.inr (.inl 0)), some (.inr (.inl 30)), some (.inr (.inl 47)), some (.inl i), o5, o6], [.inl r73], n67, D68, s69, p70, c71) _
        have tc100 : s69 100 = (s 100) := hW70.gz 100 rfl
        have tc101 : s69 101 = (s 101) := hW70.gz 101 rfl
        have tc102 : s69 102 = (s 102) := hW70.gz 102 rfl
        have tc103 : s69 103 = (s 103) := hW70.gz 103 rfl
        have tc3001 : s69 3001 = (s 3001) := hW70.gz 3001 rfl
        have tc3002 : s69 3002 = (s 3002) := hW70.gz 3002 rfl
        have tc3003 : s69 3003 = (s 3003) := hW70.gz 3003 rfl
        have tc3004 : s69 3004 = (s 3004) := hW70.gz 3004 rfl
        refine tt_k 6 (S' := (327, [some (.inr (.inl 1000004)), some (.inr (.inl 0)), some (.inr (.inl 30)), some (.inr (.inl 47)), some (.inl i), some (.inl r73), o6], [.inl (i + 1), .inr (.inl 1000004), .inr (.inl 30)], n67, D68, s69, p70, c71)) rfl ?_
        refine tt_stat (j := 4) (i := (i + 1)) rfl hs (by omega) ?_
        show tt Zi 12 0 (328, [some (.inr (.inl 1000004)), some (.inr (.inl 0)), some (.inr (.inl 30)), some (.inr (.inl 47)), some (.inl i), some (.inl r73), o6], [.inl ((xs ((i + 1)).toNat)), .inr (.inl 30)], n67, D68, s69, p70, c71) _
        refine tt_k 4 (S' := (333, [some (.inr (.inl 1000004)), some (.inr (.inl 0)), some (.inr (.inl 30)), some (.inr (.inl 47)), some (.inl i), some (.inl r73), o6], [.inl (i + 2), .inr (.inl 1000004), .inl ((xs ((i + 1)).toNat)), .inr (.inl 30)], n67, D68, s69, p70, c71)) rfl ?_
        refine tt_stat (j := 4) (i := (i + 2)) rfl hs (by omega) ?_
        show tt Zi 12 0 (334, [some (.inr (.inl 1000004)), some (.inr (.inl 0)), some (.inr (.inl 30)), some (.inr (.inl 47)), some (.inl i), some (.inl r73), o6], [.inl ((xs ((i + 2)).toNat)), .inl ((xs ((i + 1)).toNat)), .inr (.inl 30)], n67, D68, s69, p70, c71) _
        refine tt_k 4 (S' := (339, [some (.inr (.inl 1000004)), some (.inr (.inl 0)), some (.inr (.inl 30)), some (.inr (.inl 47)), some (.inl i), some (.inl r73), o6], [.inl (i + 3), .inr (.inl 1000004), .inl ((xs ((i + 2)).toNat)), .inl ((xs ((i + 1)).toNat)), .inr (.inl 30)], n67, D68, s69, p70, c71)) rfl ?_
        refine tt_stat (j := 4) (i := (i + 3)) rfl hs (by omega) ?_
        show tt Zi 12 0 (340, [some (.inr (.inl 1000004)), some (.inr (.inl 0)), some (.inr (.inl 30)), some (.inr (.inl 47)), some (.inl i), some (.inl r73), o6], [.inl ((xs ((i + 3)).toNat)), .inl ((xs ((i + 2)).toNat)), .inl ((xs ((i + 1)).toNat)), .inr (.inl 30)], n67, D68, s69, p70, c71) _
        refine tt_cl (by omega) rfl (k_at2 (Zi := Zi) (D := D68) (s := s69) (p := p70) (c := c71) (by omega) hS69 hC71 ((xs ((i + 1)).toNat)) ((xs ((i + 2)).toNat)) ((xs ((i + 3)).toNat)) (by omega) (by omega) (by omega)) ?_
        rintro _ _ ⟨s76, r77, rfl, rfl, hS76, f78, b79, k80, k81⟩
        have hW82 := wp_rf f78 (by decide) hW70
        show tt Zi 12 0 (343, [some (.inr (.inl 1000004)), some (.inr (.inl 0)), some (.inr (.inl 30)), some (.inr (.inl 47)), some (.inl i), some (.inl r73), o6], [.inl r77], n67, D68, s76, p70, c71) _
        have te100 : s76 100 = (s69 100) := f78 100 (by decide)
        have te101 : s76 101 = (s69 101) := f78 101 (by decide)
        have te102 : s76 102 = (s69 102) := f78 102 (by decide)
        have te103 : s76 103 = (s69 103) := f78 103 (by decide)
        have te3001 : s76 3001 = (s69 3001) := f78 3001 (by decide)
        have te3002 : s76 3002 = (s69 3002) := f78 3002 (by decide)
        have te3003 : s76 3003 = (s69 3003) := f78 3003 (by decide)
        have te3004 : s76 3004 = (s69 3004) := f78 3004 (by decide)
        have ht2 : tie s76 := ⟨te100.trans (tc100.trans (ht.1.trans (tc3001.symm.trans te3001.symm))), te101.trans (tc101.trans (ht.2.1.trans (tc3002.symm.trans te3002.symm))), te102.trans (tc102.trans (ht.2.2.1.trans (tc3003.symm.trans te3003.symm))), te103.trans (tc103.trans (ht.2.2.2.trans (tc3004.symm.trans te3004.symm)))⟩
        have FKr := fk_rf (c := c71) (K := []) FKc.1
        have tS2 : tiS s76 p70 c71 := tiS_fk (tiS_fk ⟨E, hcE, hrE⟩ FKc (by decide) tc100 tc101 tc102) FKr (by decide) te100 te101 te102
        have eq3001 : (s69 3001) = s 100 := tc3001.trans ht.1.symm
        have eq3002 : (s69 3002) = s 101 := tc3002.trans ht.2.1.symm
        have eq3003 : (s69 3003) = s 102 := tc3003.trans ht.2.2.1.symm
        have hqa := at_q hcE hrE FKc k75 k80 k81 eq3001 eq3002 eq3003
        clear k80 k81 eq3001 eq3002 eq3003
        clear tc100 tc101 tc102 tc103 tc3001 tc3002 tc3003 tc3004 te100 te101 te102 te103 te3001 te3002 te3003 te3004
        refine tt_k 2 (S' := (346, [some (.inr (.inl 1000004)), some (.inr (.inl 0)), some (.inr (.inl 30)), some (.inr (.inl 47)), some (.inl i), some (.inl r73), some (.inl r77)], [.inr (.inl 30)], n67, D68, s76, p70, c71)) rfl ?_
        refine tt_cl (by omega) rfl (k_thrown (Zi := Zi) (D := D68) (s := s76) (p := p70) (c := c71) (by omega) hS76 hC71 ) ?_
        rintro _ _ ⟨r83, rfl, rfl, b84, k85⟩
        show tt Zi 12 0 (349, [some (.inr (.inl 1000004)), some (.inr (.inl 0)), some (.inr (.inl 30)), some (.inr (.inl 47)), some (.inl i), some (.inl r73), some (.inl r77)], [.inl r83], n67, D68, s76, p70, c71) _
        refine tt_k 1 (S' := (351, [some (.inr (.inl 1000004)), some (.inr (.inl 0)), some (.inr (.inl 30)), some (.inr (.inl 47)), some (.inl i), some (.inl r73), some (.inl r77)], [.inl r73, .inl r83], n67, D68, s76, p70, c71)) rfl ?_
        refine tb_eq (x := r83) (y := r73) rfl rfl (by omega) (fun h86 => ?_) (fun h86 => ?_)
        · show tt Zi 12 0 (356, [some (.inr (.inl 1000004)), some (.inr (.inl 0)), some (.inr (.inl 30)), some (.inr (.inl 47)), some (.inl i), some (.inl r73), some (.inl r77)], [], n67, D68, s76, p70, c71) _
          refine tt_k 1 (S' := (358, [some (.inr (.inl 1000004)), some (.inr (.inl 0)), some (.inr (.inl 30)), some (.inr (.inl 47)), some (.inl i), some (.inl r73), some (.inl r77)], [.inl r73], n67, D68, s76, p70, c71)) rfl ?_
          refine tz_ne (x := r73) rfl rfl (by omega) (fun h87 => ?_) (fun h87 => ?_)
          · show tt Zi 12 0 (373, [some (.inr (.inl 1000004)), some (.inr (.inl 0)), some (.inr (.inl 30)), some (.inr (.inl 47)), some (.inl i), some (.inl r73), some (.inl r77)], [], n67, D68, s76, p70, c71) _
            refine tt_k 3 (S' := (23, [some (.inr (.inl 1000004)), some (.inr (.inl 0)), some (.inr (.inl 30)), some (.inr (.inl 47)), some (.inl (i + 9)), some (.inl r73), some (.inl r77)], [], n67, D68, s76, p70, c71)) rfl ?_
            exact ih (q + 1) (i + 9) (some (.inl r73)) (some (.inl r77)) (n67, D68, s76, p70, c71) ⟨hS76, hC71, (wp_rg hW82), FKr.1⟩ ht2 tS2 (by omega) (by omega) (by omega) (by omega)
          · show tt Zi 12 0 (361, [some (.inr (.inl 1000004)), some (.inr (.inl 0)), some (.inr (.inl 30)), some (.inr (.inl 47)), some (.inl i), some (.inl r73), some (.inl r77)], [], n67, D68, s76, p70, c71) _
            refine tt_k 2 (S' := (363, [some (.inr (.inl 1000004)), some (.inr (.inl 0)), some (.inr (.inl 30)), some (.inr (.inl 47)), some (.inl i), some (.inl r73), some (.inl r77)], [.inl 0, .inr (.inl 47)], n67, D68, s76, p70, c71)) rfl ?_
            refine tt_llb (a := 47) (i := 0) (m := 1) rfl rfl (by omega) hC71 ⟨rfl, rfl⟩ ?_
            intro v88 bv88 hvv88
            have hwv88 : c71 47 0 = v88 := hvv88
            show tt Zi 12 0 (364, [some (.inr (.inl 1000004)), some (.inr (.inl 0)), some (.inr (.inl 30)), some (.inr (.inl 47)), some (.inl i), some (.inl r73), some (.inl r77)], [.inr (.inr v88)], n67, D68, s76, p70, c71) _
            refine tt_k 1 (S' := (366, [some (.inr (.inl 1000004)), some (.inr (.inl 0)), some (.inr (.inl 30)), some (.inr (.inl 47)), some (.inl i), some (.inl r73), some (.inl r77)], [.inl r77, .inr (.inr v88)], n67, D68, s76, p70, c71)) rfl ?_
            refine tt_i2l (x := r77) rfl (by omega) ?_
            refine tt_k 1 (S' := (368, [some (.inr (.inl 1000004)), some (.inr (.inl 0)), some (.inr (.inl 30)), some (.inr (.inl 47)), some (.inl i), some (.inl r73), some (.inl r77)], [.inl (mi_lcmp v88 r77)], n67, D68, s76, p70, c71)) rfl ?_
            have b89 := mi_lcmp_eq (x := v88) (y := r77) (by omega) (by omega)
            have e90 := mi_lcmp_lt (x := v88) (y := r77) (by omega) (by omega)
            refine tz_eq (x := (mi_lcmp v88 r77)) rfl rfl (by omega) (fun h91 => ?_) (fun h91 => ?_)
            · show tt Zi 12 0 (373, [some (.inr (.inl 1000004)), some (.inr (.inl 0)), some (.inr (.inl 30)), some (.inr (.inl 47)), some (.inl i), some (.inl r73), some (.inl r77)], [], n67, D68, s76, p70, c71) _
              refine tt_k 3 (S' := (23, [some (.inr (.inl 1000004)), some (.inr (.inl 0)), some (.inr (.inl 30)), some (.inr (.inl 47)), some (.inl (i + 9)), some (.inl r73), some (.inl r77)], [], n67, D68, s76, p70, c71)) rfl ?_
              exact ih (q + 1) (i + 9) (some (.inl r73)) (some (.inl r77)) (n67, D68, s76, p70, c71) ⟨hS76, hC71, (wp_rg hW82), FKr.1⟩ ht2 tS2 (by omega) (by omega) (by omega) (by omega)
            · show tt Zi 12 0 (371, [some (.inr (.inl 1000004)), some (.inr (.inl 0)), some (.inr (.inl 30)), some (.inr (.inl 47)), some (.inl i), some (.inl r73), some (.inl r77)], [], n67, D68, s76, p70, c71) _
              refine tt_k 1 (S' := (372, [some (.inr (.inl 1000004)), some (.inr (.inl 0)), some (.inr (.inl 30)), some (.inr (.inl 47)), some (.inl i), some (.inl r73), some (.inl r77)], [.inl 0], n67, D68, s76, p70, c71)) rfl ?_
              exfalso
              omega
        · show tt Zi 12 0 (354, [some (.inr (.inl 1000004)), some (.inr (.inl 0)), some (.inr (.inl 30)), some (.inr (.inl 47)), some (.inl i), some (.inl r73), some (.inl r77)], [], n67, D68, s76, p70, c71) _
          refine tt_k 1 (S' := (355, [some (.inr (.inl 1000004)), some (.inr (.inl 0)), some (.inr (.inl 30)), some (.inr (.inl 47)), some (.inl i), some (.inl r73), some (.inl r77)], [.inl 0], n67, D68, s76, p70, c71)) rfl ?_
          exfalso
          omega
      by_cases h92 : (mi_and (xs (i).toNat) 15) = 3
      · have h93 := h92
        refine tt_tsw (x := (mi_and (xs (i).toNat) 15)) (off := 336) rfl (by omega) (by omega) (by rw [h92]; rfl) rfl ?_
        show tt Zi 12 0 (376, [some (.inr (.inl 1000004)), some (.inr (.inl 0)), some (.inr (.inl 30)), some (.inr (.inl 47)), some (.inl i), o5, o6], [], n, D, s, p, c) _
        refine tt_k 5 (S' := (382, [some (.inr (.inl 1000004)), some (.inr (.inl 0)), some (.inr (.inl 30)), some (.inr (.inl 47)), some (.inl i), o5, o6], [.inl (i + 1), .inr (.inl 1000004), .inr (.inl 0)], n, D, s, p, c)) rfl ?_
        refine tt_stat (j := 4) (i := (i + 1)) rfl hs (by omega) ?_
        show tt Zi 12 0 (383, [some (.inr (.inl 1000004)), some (.inr (.inl 0)), some (.inr (.inl 30)), some (.inr (.inl 47)), some (.inl i), o5, o6], [.inl ((xs ((i + 1)).toNat)), .inr (.inl 0)], n, D, s, p, c) _
        have b94 := hxs ((i + 1)).toNat
        refine tt_k 4 (S' := (388, [some (.inr (.inl 1000004)), some (.inr (.inl 0)), some (.inr (.inl 30)), some (.inr (.inl 47)), some (.inl i), o5, o6], [.inl (i + 2), .inr (.inl 1000004), .inl ((xs ((i + 1)).toNat)), .inr (.inl 0)], n, D, s, p, c)) rfl ?_
        refine tt_stat (j := 4) (i := (i + 2)) rfl hs (by omega) ?_
        show tt Zi 12 0 (389, [some (.inr (.inl 1000004)), some (.inr (.inl 0)), some (.inr (.inl 30)), some (.inr (.inl 47)), some (.inl i), o5, o6], [.inl ((xs ((i + 2)).toNat)), .inl ((xs ((i + 1)).toNat)), .inr (.inl 0)], n, D, s, p, c) _
        have b95 := hxs ((i + 2)).toNat
        refine tt_k 4 (S' := (394, [some (.inr (.inl 1000004)), some (.inr (.inl 0)), some (.inr (.inl 30)), some (.inr (.inl 47)), some (.inl i), o5, o6], [.inl (i + 3), .inr (.inl 1000004), .inl ((xs ((i + 2)).toNat)), .inl ((xs ((i + 1)).toNat)), .inr (.inl 0)], n, D, s, p, c)) rfl ?_
        refine tt_stat (j := 4) (i := (i + 3)) rfl hs (by omega) ?_
        show tt Zi 12 0 (395, [some (.inr (.inl 1000004)), some (.inr (.inl 0)), some (.inr (.inl 30)), some (.inr (.inl 47)), some (.inl i), o5, o6], [.inl ((xs ((i + 3)).toNat)), .inl ((xs ((i + 2)).toNat)), .inl ((xs ((i + 1)).toNat)), .inr (.inl 0)], n, D, s, p, c) _
        have b96 := hxs ((i + 3)).toNat
        refine tt_k 4 (S' := (400, [some (.inr (.inl 1000004)), some (.inr (.inl 0)), some (.inr (.inl 30)), some (.inr (.inl 47)), some (.inl i), o5, o6], [.inl (i + 4), .inr (.inl 1000004), .inl ((xs ((i + 3)).toNat)), .inl ((xs ((i + 2)).toNat)), .inl ((xs ((i + 1)).toNat)), .inr (.inl 0)], n, D, s, p, c)) rfl ?_
        refine tt_stat (j := 4) (i := (i + 4)) rfl hs (by omega) ?_
        show tt Zi 12 0 (401, [some (.inr (.inl 1000004)), some (.inr (.inl 0)), some (.inr (.inl 30)), some (.inr (.inl 47)), some (.inl i), o5, o6], [.inl ((xs ((i + 4)).toNat)), .inl ((xs ((i + 3)).toNat)), .inl ((xs ((i + 2)).toNat)), .inl ((xs ((i + 1)).toNat)), .inr (.inl 0)], n, D, s, p, c) _
        have b97 := hxs ((i + 4)).toNat
        refine tt_k 4 (S' := (406, [some (.inr (.inl 1000004)), some (.inr (.inl 0)), some (.inr (.inl 30)), some (.inr (.inl 47)), some (.inl i), o5, o6], [.inl (i + 5), .inr (.inl 1000004), .inl ((xs ((i + 4)).toNat)), .inl ((xs ((i + 3)).toNat)), .inl ((xs ((i + 2)).toNat)), .inl ((xs ((i + 1)).toNat)), .inr (.inl 0)], n, D, s, p, c)) rfl ?_
        refine tt_stat (j := 4) (i := (i + 5)) rfl hs (by omega) ?_
        show tt Zi 12 0 (407, [some (.inr (.inl 1000004)), some (.inr (.inl 0)), some (.inr (.inl 30)), some (.inr (.inl 47)), some (.inl i), o5, o6], [.inl ((xs ((i + 5)).toNat)), .inl ((xs ((i + 4)).toNat)), .inl ((xs ((i + 3)).toNat)), .inl ((xs ((i + 2)).toNat)), .inl ((xs ((i + 1)).toNat)), .inr (.inl 0)], n, D, s, p, c) _
        have b98 := hxs ((i + 5)).toNat
        refine tt_cl (by omega) rfl (h_measures (Zi := Zi) (q := q) (n := n) (D := D) (s := s) (p := p) (c := c) (by omega) hz (by omega) hD hS hC (wp_rg hW) ((xs ((i + 1)).toNat)) ((xs ((i + 2)).toNat)) ((xs ((i + 3)).toNat)) ((xs ((i + 4)).toNat)) ((xs ((i + 5)).toNat)) (by omega) (by omega) (by omega) (by omega) (by omega)) ?_
        rintro _ ⟨n99, D100, s101, p102, c103⟩ ⟨r105, rfl, b106, hY104, k107⟩
        have hS101 : bS s101 := hY104.1
        have hC103 : bC D100 c103 := hY104.2.1
        have hW102 : wp _ _ n99 D100 p102 s101 := hY104.2.2.1
        have FKc : fk p c n99 p102 c103 [3] := hY104.2.2.2
        show tt Zi 12 0 (410, [some (.inr (.inl 1000004)), some (.inr (.inl 0)), some (.inr (.inl 30)), some (.inr (.inl 47)), some (.inl i), o5, o6], [.inl r105], n99, D100, s101, p102, c103) _
        have tc100 : s101 100 = (s 100) := hW102.gz 100 rfl
        have tc101 : s101 101 = (s 101) := hW102.gz 101 rfl
        have tc102 : s101 102 = (s 102) := hW102.gz 102 rfl
        have tc103 : s101 103 = (s 103) := hW102.gz 103 rfl
        have tc3001 : s101 3001 = (s 3001) := hW102.gz 3001 rfl
        have tc3002 : s101 3002 = (s 3002) := hW102.gz 3002 rfl
        have tc3003 : s101 3003 = (s 3003) := hW102.gz 3003 rfl
        have tc3004 : s101 3004 = (s 3004) := hW102.gz 3004 rfl
        refine tt_k 6 (S' := (418, [some (.inr (.inl 1000004)), some (.inr (.inl 0)), some (.inr (.inl 30)), some (.inr (.inl 47)), some (.inl i), some (.inl r105), o6], [.inl (i + 1), .inr (.inl 1000004), .inr (.inl 30)], n99, D100, s101, p102, c103)) rfl ?_
        refine tt_stat (j := 4) (i := (i + 1)) rfl hs (by omega) ?_
        show tt Zi 12 0 (419, [some (.inr (.inl 1000004)), some (.inr (.inl 0)), some (.inr (.inl 30)), some (.inr (.inl 47)), some (.inl i), some (.inl r105), o6], [.inl ((xs ((i + 1)).toNat)), .inr (.inl 30)], n99, D100, s101, p102, c103) _
        refine tt_k 4 (S' := (424, [some (.inr (.inl 1000004)), some (.inr (.inl 0)), some (.inr (.inl 30)), some (.inr (.inl 47)), some (.inl i), some (.inl r105), o6], [.inl (i + 2), .inr (.inl 1000004), .inl ((xs ((i + 1)).toNat)), .inr (.inl 30)], n99, D100, s101, p102, c103)) rfl ?_
        refine tt_stat (j := 4) (i := (i + 2)) rfl hs (by omega) ?_
        show tt Zi 12 0 (425, [some (.inr (.inl 1000004)), some (.inr (.inl 0)), some (.inr (.inl 30)), some (.inr (.inl 47)), some (.inl i), some (.inl r105), o6], [.inl ((xs ((i + 2)).toNat)), .inl ((xs ((i + 1)).toNat)), .inr (.inl 30)], n99, D100, s101, p102, c103) _
        refine tt_k 4 (S' := (430, [some (.inr (.inl 1000004)), some (.inr (.inl 0)), some (.inr (.inl 30)), some (.inr (.inl 47)), some (.inl i), some (.inl r105), o6], [.inl (i + 3), .inr (.inl 1000004), .inl ((xs ((i + 2)).toNat)), .inl ((xs ((i + 1)).toNat)), .inr (.inl 30)], n99, D100, s101, p102, c103)) rfl ?_
        refine tt_stat (j := 4) (i := (i + 3)) rfl hs (by omega) ?_
        show tt Zi 12 0 (431, [some (.inr (.inl 1000004)), some (.inr (.inl 0)), some (.inr (.inl 30)), some (.inr (.inl 47)), some (.inl i), some (.inl r105), o6], [.inl ((xs ((i + 3)).toNat)), .inl ((xs ((i + 2)).toNat)), .inl ((xs ((i + 1)).toNat)), .inr (.inl 30)], n99, D100, s101, p102, c103) _
        refine tt_k 4 (S' := (436, [some (.inr (.inl 1000004)), some (.inr (.inl 0)), some (.inr (.inl 30)), some (.inr (.inl 47)), some (.inl i), some (.inl r105), o6], [.inl (i + 4), .inr (.inl 1000004), .inl ((xs ((i + 3)).toNat)), .inl ((xs ((i + 2)).toNat)), .inl ((xs ((i + 1)).toNat)), .inr (.inl 30)], n99, D100, s101, p102, c103)) rfl ?_
        refine tt_stat (j := 4) (i := (i + 4)) rfl hs (by omega) ?_
        show tt Zi 12 0 (437, [some (.inr (.inl 1000004)), some (.inr (.inl 0)), some (.inr (.inl 30)), some (.inr (.inl 47)), some (.inl i), some (.inl r105), o6], [.inl ((xs ((i + 4)).toNat)), .inl ((xs ((i + 3)).toNat)), .inl ((xs ((i + 2)).toNat)), .inl ((xs ((i + 1)).toNat)), .inr (.inl 30)], n99, D100, s101, p102, c103) _
        refine tt_k 4 (S' := (442, [some (.inr (.inl 1000004)), some (.inr (.inl 0)), some (.inr (.inl 30)), some (.inr (.inl 47)), some (.inl i), some (.inl r105), o6], [.inl (i + 5), .inr (.inl 1000004), .inl ((xs ((i + 4)).toNat)), .inl ((xs ((i + 3)).toNat)), .inl ((xs ((i + 2)).toNat)), .inl ((xs ((i + 1)).toNat)), .inr (.inl 30)], n99, D100, s101, p102, c103)) rfl ?_
        refine tt_stat (j := 4) (i := (i + 5)) rfl hs (by omega) ?_
        show tt Zi 12 0 (443, [some (.inr (.inl 1000004)), some (.inr (.inl 0)), some (.inr (.inl 30)), some (.inr (.inl 47)), some (.inl i), some (.inl r105), o6], [.inl ((xs ((i + 5)).toNat)), .inl ((xs ((i + 4)).toNat)), .inl ((xs ((i + 3)).toNat)), .inl ((xs ((i + 2)).toNat)), .inl ((xs ((i + 1)).toNat)), .inr (.inl 30)], n99, D100, s101, p102, c103) _
        refine tt_cl (by omega) rfl (k_measures2 (Zi := Zi) (D := D100) (s := s101) (p := p102) (c := c103) (by omega) hS101 hC103 ((xs ((i + 1)).toNat)) ((xs ((i + 2)).toNat)) ((xs ((i + 3)).toNat)) ((xs ((i + 4)).toNat)) ((xs ((i + 5)).toNat)) (by omega) (by omega) (by omega) (by omega) (by omega)) ?_
        rintro _ _ ⟨s108, c109, rfl, rfl, hS108, hC109, f110, g111, k112⟩
        have hW113 := wp_rf f110 (by decide) hW102
        show tt Zi 12 0 (446, [some (.inr (.inl 1000004)), some (.inr (.inl 0)), some (.inr (.inl 30)), some (.inr (.inl 47)), some (.inl i), some (.inl r105), o6], [], n99, D100, s108, p102, c109) _
        have te100 : s108 100 = (s101 100) := f110 100 (by decide)
        have te101 : s108 101 = (s101 101) := f110 101 (by decide)
        have te102 : s108 102 = (s101 102) := f110 102 (by decide)
        have te103 : s108 103 = (s101 103) := f110 103 (by decide)
        have te3001 : s108 3001 = (s101 3001) := f110 3001 (by decide)
        have te3002 : s108 3002 = (s101 3002) := f110 3002 (by decide)
        have te3003 : s108 3003 = (s101 3003) := f110 3003 (by decide)
        have te3004 : s108 3004 = (s101 3004) := f110 3004 (by decide)
        have ht2 : tie s108 := ⟨te100.trans (tc100.trans (ht.1.trans (tc3001.symm.trans te3001.symm))), te101.trans (tc101.trans (ht.2.1.trans (tc3002.symm.trans te3002.symm))), te102.trans (tc102.trans (ht.2.2.1.trans (tc3003.symm.trans te3003.symm))), te103.trans (tc103.trans (ht.2.2.2.trans (tc3004.symm.trans te3004.symm)))⟩
        have FKr := fk_rc FKc.1 g111 (by decide)
        have tS2 : tiS s108 p102 c109 := tiS_fk (tiS_fk ⟨E, hcE, hrE⟩ FKc (by decide) tc100 tc101 tc102) FKr (by decide) te100 te101 te102
        refine tt_k 3 (S' := (23, [some (.inr (.inl 1000004)), some (.inr (.inl 0)), some (.inr (.inl 30)), some (.inr (.inl 47)), some (.inl (i + 9)), some (.inl r105), o6], [], n99, D100, s108, p102, c109)) rfl ?_
        exact ih (q + 1) (i + 9) (some (.inl r105)) (o6) (n99, D100, s108, p102, c109) ⟨hS108, hC109, (wp_rg hW113), FKr.1⟩ ht2 tS2 (by omega) (by omega) (by omega) (by omega)
      by_cases h114 : (mi_and (xs (i).toNat) 15) = 4
      · have h115 := h114
        refine tt_tsw (x := (mi_and (xs (i).toNat) 15)) (off := 409) rfl (by omega) (by omega) (by rw [h114]; rfl) rfl ?_
        show tt Zi 12 0 (449, [some (.inr (.inl 1000004)), some (.inr (.inl 0)), some (.inr (.inl 30)), some (.inr (.inl 47)), some (.inl i), o5, o6], [], n, D, s, p, c) _
        refine tt_k 5 (S' := (455, [some (.inr (.inl 1000004)), some (.inr (.inl 0)), some (.inr (.inl 30)), some (.inr (.inl 47)), some (.inl i), o5, o6], [.inl (i + 1), .inr (.inl 1000004), .inr (.inl 0)], n, D, s, p, c)) rfl ?_
        refine tt_stat (j := 4) (i := (i + 1)) rfl hs (by omega) ?_
        show tt Zi 12 0 (456, [some (.inr (.inl 1000004)), some (.inr (.inl 0)), some (.inr (.inl 30)), some (.inr (.inl 47)), some (.inl i), o5, o6], [.inl ((xs ((i + 1)).toNat)), .inr (.inl 0)], n, D, s, p, c) _
        have b116 := hxs ((i + 1)).toNat
        refine tt_k 1 (S' := (457, [some (.inr (.inl 1000004)), some (.inr (.inl 0)), some (.inr (.inl 30)), some (.inr (.inl 47)), some (.inl i), o5, o6], [.inr (.inl 47), .inl ((xs ((i + 1)).toNat)), .inr (.inl 0)], n, D, s, p, c)) rfl ?_
        refine tt_cl (by omega) rfl (h_pack (Zi := Zi) (q := q) (n := n) (D := D) (s := s) (p := p) (c := c) (by omega) hz (by omega) hD hS hC (wp_rg hW) ((xs ((i + 1)).toNat)) (by omega)) ?_
        rintro _ ⟨n117, D118, s119, p120, c121⟩ ⟨r123, rfl, b124, hY122⟩
        have hS119 : bS s119 := hY122.1
        have hC121 : bC D118 c121 := hY122.2.1
        have hW120 : wp _ _ n117 D118 p120 s119 := hY122.2.2.1
        have FKc : fk p c n117 p120 c121 [47, 400, 900, 901, 1203, 1204] := hY122.2.2.2
        show tt Zi 12 0 (460, [some (.inr (.inl 1000004)), some (.inr (.inl 0)), some (.inr (.inl 30)), some (.inr (.inl 47)), some (.inl i), o5, o6], [.inl r123], n117, D118, s119, p120, c121) _
        have tc100 : s119 100 = (s 100) := hW120.gz 100 rfl
        have tc101 : s119 101 = (s 101) := hW120.gz 101 rfl
        have tc102 : s119 102 = (s 102) := hW120.gz 102 rfl
        have tc103 : s119 103 = (s 103) := hW120.gz 103 rfl
        have tc3001 : s119 3001 = (s 3001) := hW120.gz 3001 rfl
        have tc3002 : s119 3002 = (s 3002) := hW120.gz 3002 rfl
        have tc3003 : s119 3003 = (s 3003) := hW120.gz 3003 rfl
        have tc3004 : s119 3004 = (s 3004) := hW120.gz 3004 rfl
        refine tt_k 6 (S' := (468, [some (.inr (.inl 1000004)), some (.inr (.inl 0)), some (.inr (.inl 30)), some (.inr (.inl 47)), some (.inl i), some (.inl r123), o6], [.inl (i + 1), .inr (.inl 1000004), .inr (.inl 30)], n117, D118, s119, p120, c121)) rfl ?_
        refine tt_stat (j := 4) (i := (i + 1)) rfl hs (by omega) ?_
        show tt Zi 12 0 (469, [some (.inr (.inl 1000004)), some (.inr (.inl 0)), some (.inr (.inl 30)), some (.inr (.inl 47)), some (.inl i), some (.inl r123), o6], [.inl ((xs ((i + 1)).toNat)), .inr (.inl 30)], n117, D118, s119, p120, c121) _
        refine tt_cl (by omega) rfl (k_pack (Zi := Zi) (D := D118) (s := s119) (p := p120) (c := c121) (by omega) hS119 hC121 ((xs ((i + 1)).toNat)) (by omega)) ?_
        rintro _ _ ⟨s125, c126, r127, rfl, rfl, hS125, hC126, f128, g129, b130⟩
        have hW131 := wp_rf f128 (by decide) hW120
        show tt Zi 12 0 (472, [some (.inr (.inl 1000004)), some (.inr (.inl 0)), some (.inr (.inl 30)), some (.inr (.inl 47)), some (.inl i), some (.inl r123), o6], [.inl r127], n117, D118, s125, p120, c126) _
        have te100 : s125 100 = (s119 100) := f128 100 (by decide)
        have te101 : s125 101 = (s119 101) := f128 101 (by decide)
        have te102 : s125 102 = (s119 102) := f128 102 (by decide)
        have te103 : s125 103 = (s119 103) := f128 103 (by decide)
        have te3001 : s125 3001 = (s119 3001) := f128 3001 (by decide)
        have te3002 : s125 3002 = (s119 3002) := f128 3002 (by decide)
        have te3003 : s125 3003 = (s119 3003) := f128 3003 (by decide)
        have te3004 : s125 3004 = (s119 3004) := f128 3004 (by decide)
        have ht2 : tie s125 := ⟨te100.trans (tc100.trans (ht.1.trans (tc3001.symm.trans te3001.symm))), te101.trans (tc101.trans (ht.2.1.trans (tc3002.symm.trans te3002.symm))), te102.trans (tc102.trans (ht.2.2.1.trans (tc3003.symm.trans te3003.symm))), te103.trans (tc103.trans (ht.2.2.2.trans (tc3004.symm.trans te3004.symm)))⟩
        have FKr := fk_rc FKc.1 g129 (by decide)
        have tS2 : tiS s125 p120 c126 := tiS_fk (tiS_fk ⟨E, hcE, hrE⟩ FKc (by decide) tc100 tc101 tc102) FKr (by decide) te100 te101 te102
        clear tc100 tc101 tc102 tc103 tc3001 tc3002 tc3003 tc3004 te100 te101 te102 te103 te3001 te3002 te3003 te3004
        refine tt_k 4 (S' := (23, [some (.inr (.inl 1000004)), some (.inr (.inl 0)), some (.inr (.inl 30)), some (.inr (.inl 47)), some (.inl (i + 9)), some (.inl r123), some (.inl r127)], [], n117, D118, s125, p120, c126)) rfl ?_
        exact ih (q + 1) (i + 9) (some (.inl r123)) (some (.inl r127)) (n117, D118, s125, p120, c126) ⟨hS125, hC126, (wp_rg hW131), FKr.1⟩ ht2 tS2 (by omega) (by omega) (by omega) (by omega)
      by_cases h132 : (mi_and (xs (i).toNat) 15) = 5
      · have h133 := h132
        refine tt_tsw (x := (mi_and (xs (i).toNat) 15)) (off := 437) rfl (by omega) (by omega) (by rw [h132]; rfl) rfl ?_
        show tt Zi 12 0 (477, [some (.inr (.inl 1000004)), some (.inr (.inl 0)), some (.inr (.inl 30)), some (.inr (.inl 47)), some (.inl i), o5, o6], [], n, D, s, p, c) _
        refine tt_k 1 (S' := (478, [some (.inr (.inl 1000004)), some (.inr (.inl 0)), some (.inr (.inl 30)), some (.inr (.inl 47)), some (.inl i), o5, o6], [.inr (.inl 0)], n, D, s, p, c)) rfl ?_
        refine tt_cl (by omega) rfl (g_size (Zi := Zi) (q := q) (n := n) (D := D) (s := s) (p := p) (c := c) (by omega) hz (by omega) hD hS hC (wp_rg hW) ) ?_
        rintro _ ⟨n134, D135, s136, p137, c138⟩ ⟨r140, rfl, b141, hY139⟩
        have hS136 : bS s136 := hY139.1
        have hC138 : bC D135 c138 := hY139.2.1
        have hW137 : wp _ _ n134 D135 p137 s136 := hY139.2.2.1
        have FKc : fk p c n134 p137 c138 [] := hY139.2.2.2
        show tt Zi 12 0 (481, [some (.inr (.inl 1000004)), some (.inr (.inl 0)), some (.inr (.inl 30)), some (.inr (.inl 47)), some (.inl i), o5, o6], [.inl r140], n134, D135, s136, p137, c138) _
        have tc100 : s136 100 = (s 100) := hW137.gz 100 rfl
        have tc101 : s136 101 = (s 101) := hW137.gz 101 rfl
        have tc102 : s136 102 = (s 102) := hW137.gz 102 rfl
        have tc103 : s136 103 = (s 103) := hW137.gz 103 rfl
        have tc3001 : s136 3001 = (s 3001) := hW137.gz 3001 rfl
        have tc3002 : s136 3002 = (s 3002) := hW137.gz 3002 rfl
        have tc3003 : s136 3003 = (s 3003) := hW137.gz 3003 rfl
        have tc3004 : s136 3004 = (s 3004) := hW137.gz 3004 rfl
        refine tt_k 2 (S' := (483, [some (.inr (.inl 1000004)), some (.inr (.inl 0)), some (.inr (.inl 30)), some (.inr (.inl 47)), some (.inl i), o5, o6], [.inr (.inl 30)], n134, D135, s136, p137, c138)) rfl ?_
        refine tt_cl (by omega) rfl (k_size (Zi := Zi) (D := D135) (s := s136) (p := p137) (c := c138) (by omega) hS136 hC138 ) ?_
        rintro _ _ ⟨s142, r143, rfl, rfl, hS142, f144, b145, k146, k147⟩
        have hW148 := wp_rf f144 (by decide) hW137
        show tt Zi 12 0 (486, [some (.inr (.inl 1000004)), some (.inr (.inl 0)), some (.inr (.inl 30)), some (.inr (.inl 47)), some (.inl i), o5, o6], [.inl r143], n134, D135, s142, p137, c138) _
        have te100 : s142 100 = (s136 100) := f144 100 (by decide)
        have te101 : s142 101 = (s136 101) := f144 101 (by decide)
        have te102 : s142 102 = (s136 102) := f144 102 (by decide)
        have te103 : s142 103 = (s136 103) := f144 103 (by decide)
        have te3001 : s142 3001 = (s136 3001) := f144 3001 (by decide)
        have te3002 : s142 3002 = (s136 3002) := f144 3002 (by decide)
        have te3003 : s142 3003 = (s136 3003) := f144 3003 (by decide)
        have te3004 : s142 3004 = (s136 3004) := f144 3004 (by decide)
        have ht2 : tie s142 := ⟨te100.trans (tc100.trans (ht.1.trans (tc3001.symm.trans te3001.symm))), te101.trans (tc101.trans (ht.2.1.trans (tc3002.symm.trans te3002.symm))), te102.trans (tc102.trans (ht.2.2.1.trans (tc3003.symm.trans te3003.symm))), te103.trans (tc103.trans (ht.2.2.2.trans (tc3004.symm.trans te3004.symm)))⟩
        have FKr := fk_rf (c := c138) (K := []) FKc.1
        have tS2 : tiS s142 p137 c138 := tiS_fk (tiS_fk ⟨E, hcE, hrE⟩ FKc (by decide) tc100 tc101 tc102) FKr (by decide) te100 te101 te102
        clear tc100 tc101 tc102 tc103 tc3001 tc3002 tc3003 tc3004 te100 te101 te102 te103 te3001 te3002 te3003 te3004
        refine tt_k 4 (S' := (23, [some (.inr (.inl 1000004)), some (.inr (.inl 0)), some (.inr (.inl 30)), some (.inr (.inl 47)), some (.inl (i + 9)), o5, o6], [], n134, D135, s142, p137, c138)) rfl ?_
        exact ih (q + 1) (i + 9) (o5) (o6) (n134, D135, s142, p137, c138) ⟨hS142, hC138, (wp_rg hW148), FKr.1⟩ ht2 tS2 (by omega) (by omega) (by omega) (by omega)
      by_cases h149 : (mi_and (xs (i).toNat) 15) = 6
      · have h150 := h149
        refine tt_tsw (x := (mi_and (xs (i).toNat) 15)) (off := 450) rfl (by omega) (by omega) (by rw [h149]; rfl) rfl ?_
        show tt Zi 12 0 (490, [some (.inr (.inl 1000004)), some (.inr (.inl 0)), some (.inr (.inl 30)), some (.inr (.inl 47)), some (.inl i), o5, o6], [], n, D, s, p, c) _
        refine tt_k 5 (S' := (496, [some (.inr (.inl 1000004)), some (.inr (.inl 0)), some (.inr (.inl 30)), some (.inr (.inl 47)), some (.inl i), o5, o6], [.inl (i + 1), .inr (.inl 1000004), .inr (.inl 0)], n, D, s, p, c)) rfl ?_
        refine tt_stat (j := 4) (i := (i + 1)) rfl hs (by omega) ?_
        show tt Zi 12 0 (497, [some (.inr (.inl 1000004)), some (.inr (.inl 0)), some (.inr (.inl 30)), some (.inr (.inl 47)), some (.inl i), o5, o6], [.inl ((xs ((i + 1)).toNat)), .inr (.inl 0)], n, D, s, p, c) _
        have b151 := hxs ((i + 1)).toNat
        refine tt_k 1 (S' := (498, [some (.inr (.inl 1000004)), some (.inr (.inl 0)), some (.inr (.inl 30)), some (.inr (.inl 47)), some (.inl i), o5, o6], [.inr (.inl 47), .inl ((xs ((i + 1)).toNat)), .inr (.inl 0)], n, D, s, p, c)) rfl ?_
        refine tt_cl (by omega) rfl (h_out (Zi := Zi) (q := q) (n := n) (D := D) (s := s) (p := p) (c := c) (by omega) hz (by omega) hD hS hC (wp_rg hW) ((xs ((i + 1)).toNat)) (by omega)) ?_
        rintro _ ⟨n152, D153, s154, p155, c156⟩ ⟨r158, rfl, b159, hY157⟩
        have hS154 : bS s154 := hY157.1
        have hC156 : bC D153 c156 := hY157.2.1
        have hW155 : wp _ _ n152 D153 p155 s154 := hY157.2.2.1
        have FKc : fk p c n152 p155 c156 [47] := hY157.2.2.2
        show tt Zi 12 0 (501, [some (.inr (.inl 1000004)), some (.inr (.inl 0)), some (.inr (.inl 30)), some (.inr (.inl 47)), some (.inl i), o5, o6], [.inl r158], n152, D153, s154, p155, c156) _
        have tc100 : s154 100 = (s 100) := hW155.gz 100 rfl
        have tc101 : s154 101 = (s 101) := hW155.gz 101 rfl
        have tc102 : s154 102 = (s 102) := hW155.gz 102 rfl
        have tc103 : s154 103 = (s 103) := hW155.gz 103 rfl
        have tc3001 : s154 3001 = (s 3001) := hW155.gz 3001 rfl
        have tc3002 : s154 3002 = (s 3002) := hW155.gz 3002 rfl
        have tc3003 : s154 3003 = (s 3003) := hW155.gz 3003 rfl
        have tc3004 : s154 3004 = (s 3004) := hW155.gz 3004 rfl
        refine tt_k 6 (S' := (509, [some (.inr (.inl 1000004)), some (.inr (.inl 0)), some (.inr (.inl 30)), some (.inr (.inl 47)), some (.inl i), some (.inl r158), o6], [.inl (i + 1), .inr (.inl 1000004), .inr (.inl 30)], n152, D153, s154, p155, c156)) rfl ?_
        refine tt_stat (j := 4) (i := (i + 1)) rfl hs (by omega) ?_
        show tt Zi 12 0 (510, [some (.inr (.inl 1000004)), some (.inr (.inl 0)), some (.inr (.inl 30)), some (.inr (.inl 47)), some (.inl i), some (.inl r158), o6], [.inl ((xs ((i + 1)).toNat)), .inr (.inl 30)], n152, D153, s154, p155, c156) _
        refine tt_cl (by omega) rfl (k_out (Zi := Zi) (D := D153) (s := s154) (p := p155) (c := c156) (by omega) hS154 hC156 ((xs ((i + 1)).toNat)) (by omega)) ?_
        rintro _ _ ⟨s160, r161, rfl, rfl, hS160, f162, b163, k164⟩
        have hW165 := wp_rf f162 (by decide) hW155
        show tt Zi 12 0 (513, [some (.inr (.inl 1000004)), some (.inr (.inl 0)), some (.inr (.inl 30)), some (.inr (.inl 47)), some (.inl i), some (.inl r158), o6], [.inl r161], n152, D153, s160, p155, c156) _
        have te100 : s160 100 = (s154 100) := f162 100 (by decide)
        have te101 : s160 101 = (s154 101) := f162 101 (by decide)
        have te102 : s160 102 = (s154 102) := f162 102 (by decide)
        have te103 : s160 103 = (s154 103) := f162 103 (by decide)
        have te3001 : s160 3001 = (s154 3001) := f162 3001 (by decide)
        have te3002 : s160 3002 = (s154 3002) := f162 3002 (by decide)
        have te3003 : s160 3003 = (s154 3003) := f162 3003 (by decide)
        have te3004 : s160 3004 = (s154 3004) := f162 3004 (by decide)
        have ht2 : tie s160 := ⟨te100.trans (tc100.trans (ht.1.trans (tc3001.symm.trans te3001.symm))), te101.trans (tc101.trans (ht.2.1.trans (tc3002.symm.trans te3002.symm))), te102.trans (tc102.trans (ht.2.2.1.trans (tc3003.symm.trans te3003.symm))), te103.trans (tc103.trans (ht.2.2.2.trans (tc3004.symm.trans te3004.symm)))⟩
        have FKr := fk_rf (c := c156) (K := []) FKc.1
        have tS2 : tiS s160 p155 c156 := tiS_fk (tiS_fk ⟨E, hcE, hrE⟩ FKc (by decide) tc100 tc101 tc102) FKr (by decide) te100 te101 te102
        clear tc100 tc101 tc102 tc103 tc3001 tc3002 tc3003 tc3004 te100 te101 te102 te103 te3001 te3002 te3003 te3004
        refine tt_k 4 (S' := (23, [some (.inr (.inl 1000004)), some (.inr (.inl 0)), some (.inr (.inl 30)), some (.inr (.inl 47)), some (.inl (i + 9)), some (.inl r158), some (.inl r161)], [], n152, D153, s160, p155, c156)) rfl ?_
        exact ih (q + 1) (i + 9) (some (.inl r158)) (some (.inl r161)) (n152, D153, s160, p155, c156) ⟨hS160, hC156, (wp_rg hW165), FKr.1⟩ ht2 tS2 (by omega) (by omega) (by omega) (by omega)
      by_cases h166 : (mi_and (xs (i).toNat) 15) = 7
      · have h167 := h166
        refine tt_tsw (x := (mi_and (xs (i).toNat) 15)) (off := 478) rfl (by omega) (by omega) (by rw [h166]; rfl) rfl ?_
        show tt Zi 12 0 (518, [some (.inr (.inl 1000004)), some (.inr (.inl 0)), some (.inr (.inl 30)), some (.inr (.inl 47)), some (.inl i), o5, o6], [], n, D, s, p, c) _
        refine tt_k 5 (S' := (524, [some (.inr (.inl 1000004)), some (.inr (.inl 0)), some (.inr (.inl 30)), some (.inr (.inl 47)), some (.inl i), o5, o6], [.inl (i + 1), .inr (.inl 1000004), .inr (.inl 0)], n, D, s, p, c)) rfl ?_
        refine tt_stat (j := 4) (i := (i + 1)) rfl hs (by omega) ?_
        show tt Zi 12 0 (525, [some (.inr (.inl 1000004)), some (.inr (.inl 0)), some (.inr (.inl 30)), some (.inr (.inl 47)), some (.inl i), o5, o6], [.inl ((xs ((i + 1)).toNat)), .inr (.inl 0)], n, D, s, p, c) _
        have b168 := hxs ((i + 1)).toNat
        refine tt_k 4 (S' := (530, [some (.inr (.inl 1000004)), some (.inr (.inl 0)), some (.inr (.inl 30)), some (.inr (.inl 47)), some (.inl i), o5, o6], [.inl (i + 2), .inr (.inl 1000004), .inl ((xs ((i + 1)).toNat)), .inr (.inl 0)], n, D, s, p, c)) rfl ?_
        refine tt_stat (j := 4) (i := (i + 2)) rfl hs (by omega) ?_
        show tt Zi 12 0 (531, [some (.inr (.inl 1000004)), some (.inr (.inl 0)), some (.inr (.inl 30)), some (.inr (.inl 47)), some (.inl i), o5, o6], [.inl ((xs ((i + 2)).toNat)), .inl ((xs ((i + 1)).toNat)), .inr (.inl 0)], n, D, s, p, c) _
        have b169 := hxs ((i + 2)).toNat
        refine tt_k 4 (S' := (536, [some (.inr (.inl 1000004)), some (.inr (.inl 0)), some (.inr (.inl 30)), some (.inr (.inl 47)), some (.inl i), o5, o6], [.inl (i + 3), .inr (.inl 1000004), .inl ((xs ((i + 2)).toNat)), .inl ((xs ((i + 1)).toNat)), .inr (.inl 0)], n, D, s, p, c)) rfl ?_
        refine tt_stat (j := 4) (i := (i + 3)) rfl hs (by omega) ?_
        show tt Zi 12 0 (537, [some (.inr (.inl 1000004)), some (.inr (.inl 0)), some (.inr (.inl 30)), some (.inr (.inl 47)), some (.inl i), o5, o6], [.inl ((xs ((i + 3)).toNat)), .inl ((xs ((i + 2)).toNat)), .inl ((xs ((i + 1)).toNat)), .inr (.inl 0)], n, D, s, p, c) _
        have b170 := hxs ((i + 3)).toNat
        refine tt_k 4 (S' := (542, [some (.inr (.inl 1000004)), some (.inr (.inl 0)), some (.inr (.inl 30)), some (.inr (.inl 47)), some (.inl i), o5, o6], [.inl (i + 4), .inr (.inl 1000004), .inl ((xs ((i + 3)).toNat)), .inl ((xs ((i + 2)).toNat)), .inl ((xs ((i + 1)).toNat)), .inr (.inl 0)], n, D, s, p, c)) rfl ?_
        refine tt_stat (j := 4) (i := (i + 4)) rfl hs (by omega) ?_
        show tt Zi 12 0 (543, [some (.inr (.inl 1000004)), some (.inr (.inl 0)), some (.inr (.inl 30)), some (.inr (.inl 47)), some (.inl i), o5, o6], [.inl ((xs ((i + 4)).toNat)), .inl ((xs ((i + 3)).toNat)), .inl ((xs ((i + 2)).toNat)), .inl ((xs ((i + 1)).toNat)), .inr (.inl 0)], n, D, s, p, c) _
        have b171 := hxs ((i + 4)).toNat
        refine tt_k 4 (S' := (548, [some (.inr (.inl 1000004)), some (.inr (.inl 0)), some (.inr (.inl 30)), some (.inr (.inl 47)), some (.inl i), o5, o6], [.inl (i + 5), .inr (.inl 1000004), .inl ((xs ((i + 4)).toNat)), .inl ((xs ((i + 3)).toNat)), .inl ((xs ((i + 2)).toNat)), .inl ((xs ((i + 1)).toNat)), .inr (.inl 0)], n, D, s, p, c)) rfl ?_
        refine tt_stat (j := 4) (i := (i + 5)) rfl hs (by omega) ?_
        show tt Zi 12 0 (549, [some (.inr (.inl 1000004)), some (.inr (.inl 0)), some (.inr (.inl 30)), some (.inr (.inl 47)), some (.inl i), o5, o6], [.inl ((xs ((i + 5)).toNat)), .inl ((xs ((i + 4)).toNat)), .inl ((xs ((i + 3)).toNat)), .inl ((xs ((i + 2)).toNat)), .inl ((xs ((i + 1)).toNat)), .inr (.inl 0)], n, D, s, p, c) _
        have b172 := hxs ((i + 5)).toNat
        refine tt_k 1 (S' := (550, [some (.inr (.inl 1000004)), some (.inr (.inl 0)), some (.inr (.inl 30)), some (.inr (.inl 47)), some (.inl i), o5, o6], [.inr (.inl 47), .inl ((xs ((i + 5)).toNat)), .inl ((xs ((i + 4)).toNat)), .inl ((xs ((i + 3)).toNat)), .inl ((xs ((i + 2)).toNat)), .inl ((xs ((i + 1)).toNat)), .inr (.inl 0)], n, D, s, p, c)) rfl ?_
        refine tt_cl (by omega) rfl (h_feed (Zi := Zi) (q := q) (n := n) (D := D) (s := s) (p := p) (c := c) (by omega) hz (by omega) hD hS hC (wp_rg hW) ((xs ((i + 1)).toNat)) ((xs ((i + 2)).toNat)) ((xs ((i + 3)).toNat)) ((xs ((i + 4)).toNat)) ((xs ((i + 5)).toNat)) (by omega) (by omega) (by omega) (by omega) (by omega)) ?_
        rintro _ ⟨n173, D174, s175, p176, c177⟩ ⟨r179, rfl, b180, hY178⟩
        have hS175 : bS s175 := hY178.1
        have hC177 : bC D174 c177 := hY178.2.1
        have hW176 : wp _ _ n173 D174 p176 s175 := hY178.2.2.1
        have FKc : fk p c n173 p176 c177 [47, 600] := hY178.2.2.2
        show tt Zi 12 0 (553, [some (.inr (.inl 1000004)), some (.inr (.inl 0)), some (.inr (.inl 30)), some (.inr (.inl 47)), some (.inl i), o5, o6], [.inl r179], n173, D174, s175, p176, c177) _
        have tc100 : s175 100 = (s 100) := hW176.gz 100 rfl
        have tc101 : s175 101 = (s 101) := hW176.gz 101 rfl
        have tc102 : s175 102 = (s 102) := hW176.gz 102 rfl
        have tc103 : s175 103 = (s 103) := hW176.gz 103 rfl
        have tc3001 : s175 3001 = (s 3001) := hW176.gz 3001 rfl
        have tc3002 : s175 3002 = (s 3002) := hW176.gz 3002 rfl
        have tc3003 : s175 3003 = (s 3003) := hW176.gz 3003 rfl
        have tc3004 : s175 3004 = (s 3004) := hW176.gz 3004 rfl
        refine tt_k 6 (S' := (561, [some (.inr (.inl 1000004)), some (.inr (.inl 0)), some (.inr (.inl 30)), some (.inr (.inl 47)), some (.inl i), some (.inl r179), o6], [.inl (i + 1), .inr (.inl 1000004), .inr (.inl 30)], n173, D174, s175, p176, c177)) rfl ?_
        refine tt_stat (j := 4) (i := (i + 1)) rfl hs (by omega) ?_
        show tt Zi 12 0 (562, [some (.inr (.inl 1000004)), some (.inr (.inl 0)), some (.inr (.inl 30)), some (.inr (.inl 47)), some (.inl i), some (.inl r179), o6], [.inl ((xs ((i + 1)).toNat)), .inr (.inl 30)], n173, D174, s175, p176, c177) _
        refine tt_k 4 (S' := (567, [some (.inr (.inl 1000004)), some (.inr (.inl 0)), some (.inr (.inl 30)), some (.inr (.inl 47)), some (.inl i), some (.inl r179), o6], [.inl (i + 2), .inr (.inl 1000004), .inl ((xs ((i + 1)).toNat)), .inr (.inl 30)], n173, D174, s175, p176, c177)) rfl ?_
        refine tt_stat (j := 4) (i := (i + 2)) rfl hs (by omega) ?_
        show tt Zi 12 0 (568, [some (.inr (.inl 1000004)), some (.inr (.inl 0)), some (.inr (.inl 30)), some (.inr (.inl 47)), some (.inl i), some (.inl r179), o6], [.inl ((xs ((i + 2)).toNat)), .inl ((xs ((i + 1)).toNat)), .inr (.inl 30)], n173, D174, s175, p176, c177) _
        refine tt_k 4 (S' := (573, [some (.inr (.inl 1000004)), some (.inr (.inl 0)), some (.inr (.inl 30)), some (.inr (.inl 47)), some (.inl i), some (.inl r179), o6], [.inl (i + 3), .inr (.inl 1000004), .inl ((xs ((i + 2)).toNat)), .inl ((xs ((i + 1)).toNat)), .inr (.inl 30)], n173, D174, s175, p176, c177)) rfl ?_
        refine tt_stat (j := 4) (i := (i + 3)) rfl hs (by omega) ?_
        show tt Zi 12 0 (574, [some (.inr (.inl 1000004)), some (.inr (.inl 0)), some (.inr (.inl 30)), some (.inr (.inl 47)), some (.inl i), some (.inl r179), o6], [.inl ((xs ((i + 3)).toNat)), .inl ((xs ((i + 2)).toNat)), .inl ((xs ((i + 1)).toNat)), .inr (.inl 30)], n173, D174, s175, p176, c177) _
        refine tt_k 4 (S' := (579, [some (.inr (.inl 1000004)), some (.inr (.inl 0)), some (.inr (.inl 30)), some (.inr (.inl 47)), some (.inl i), some (.inl r179), o6], [.inl (i + 4), .inr (.inl 1000004), .inl ((xs ((i + 3)).toNat)), .inl ((xs ((i + 2)).toNat)), .inl ((xs ((i + 1)).toNat)), .inr (.inl 30)], n173, D174, s175, p176, c177)) rfl ?_
        refine tt_stat (j := 4) (i := (i + 4)) rfl hs (by omega) ?_
        show tt Zi 12 0 (580, [some (.inr (.inl 1000004)), some (.inr (.inl 0)), some (.inr (.inl 30)), some (.inr (.inl 47)), some (.inl i), some (.inl r179), o6], [.inl ((xs ((i + 4)).toNat)), .inl ((xs ((i + 3)).toNat)), .inl ((xs ((i + 2)).toNat)), .inl ((xs ((i + 1)).toNat)), .inr (.inl 30)], n173, D174, s175, p176, c177) _
        refine tt_k 4 (S' := (585, [some (.inr (.inl 1000004)), some (.inr (.inl 0)), some (.inr (.inl 30)), some (.inr (.inl 47)), some (.inl i), some (.inl r179), o6], [.inl (i + 5), .inr (.inl 1000004), .inl ((xs ((i + 4)).toNat)), .inl ((xs ((i + 3)).toNat)), .inl ((xs ((i + 2)).toNat)), .inl ((xs ((i + 1)).toNat)), .inr (.inl 30)], n173, D174, s175, p176, c177)) rfl ?_
        refine tt_stat (j := 4) (i := (i + 5)) rfl hs (by omega) ?_
        show tt Zi 12 0 (586, [some (.inr (.inl 1000004)), some (.inr (.inl 0)), some (.inr (.inl 30)), some (.inr (.inl 47)), some (.inl i), some (.inl r179), o6], [.inl ((xs ((i + 5)).toNat)), .inl ((xs ((i + 4)).toNat)), .inl ((xs ((i + 3)).toNat)), .inl ((xs ((i + 2)).toNat)), .inl ((xs ((i + 1)).toNat)), .inr (.inl 30)], n173, D174, s175, p176, c177) _
        refine tt_cl (by omega) rfl (k_feed (Zi := Zi) (D := D174) (s := s175) (p := p176) (c := c177) (by omega) hS175 hC177 ((xs ((i + 1)).toNat)) ((xs ((i + 2)).toNat)) ((xs ((i + 3)).toNat)) ((xs ((i + 4)).toNat)) ((xs ((i + 5)).toNat)) (by omega) (by omega) (by omega) (by omega) (by omega)) ?_
        rintro _ _ ⟨s181, c182, r183, rfl, rfl, hS181, hC182, f184, g185, b186⟩
        have hW187 := wp_rf f184 (by decide) hW176
        show tt Zi 12 0 (589, [some (.inr (.inl 1000004)), some (.inr (.inl 0)), some (.inr (.inl 30)), some (.inr (.inl 47)), some (.inl i), some (.inl r179), o6], [.inl r183], n173, D174, s181, p176, c182) _
        have te100 : s181 100 = (s175 100) := f184 100 (by decide)
        have te101 : s181 101 = (s175 101) := f184 101 (by decide)
        have te102 : s181 102 = (s175 102) := f184 102 (by decide)
        have te103 : s181 103 = (s175 103) := f184 103 (by decide)
        have te3001 : s181 3001 = (s175 3001) := f184 3001 (by decide)
        have te3002 : s181 3002 = (s175 3002) := f184 3002 (by decide)
        have te3003 : s181 3003 = (s175 3003) := f184 3003 (by decide)
        have te3004 : s181 3004 = (s175 3004) := f184 3004 (by decide)
        have ht2 : tie s181 := ⟨te100.trans (tc100.trans (ht.1.trans (tc3001.symm.trans te3001.symm))), te101.trans (tc101.trans (ht.2.1.trans (tc3002.symm.trans te3002.symm))), te102.trans (tc102.trans (ht.2.2.1.trans (tc3003.symm.trans te3003.symm))), te103.trans (tc103.trans (ht.2.2.2.trans (tc3004.symm.trans te3004.symm)))⟩
        have FKr := fk_rc FKc.1 g185 (by decide)
        have tS2 : tiS s181 p176 c182 := tiS_fk (tiS_fk ⟨E, hcE, hrE⟩ FKc (by decide) tc100 tc101 tc102) FKr (by decide) te100 te101 te102
        clear tc100 tc101 tc102 tc103 tc3001 tc3002 tc3003 tc3004 te100 te101 te102 te103 te3001 te3002 te3003 te3004
        refine tt_k 4 (S' := (23, [some (.inr (.inl 1000004)), some (.inr (.inl 0)), some (.inr (.inl 30)), some (.inr (.inl 47)), some (.inl (i + 9)), some (.inl r179), some (.inl r183)], [], n173, D174, s181, p176, c182)) rfl ?_
        exact ih (q + 1) (i + 9) (some (.inl r179)) (some (.inl r183)) (n173, D174, s181, p176, c182) ⟨hS181, hC182, (wp_rg hW187), FKr.1⟩ ht2 tS2 (by omega) (by omega) (by omega) (by omega)
      by_cases h188 : (mi_and (xs (i).toNat) 15) = 8
      · have h189 := h188
        refine tt_tsw (x := (mi_and (xs (i).toNat) 15)) (off := 554) rfl (by omega) (by omega) (by rw [h188]; rfl) rfl ?_
        show tt Zi 12 0 (594, [some (.inr (.inl 1000004)), some (.inr (.inl 0)), some (.inr (.inl 30)), some (.inr (.inl 47)), some (.inl i), o5, o6], [], n, D, s, p, c) _
        refine tt_k 5 (S' := (600, [some (.inr (.inl 1000004)), some (.inr (.inl 0)), some (.inr (.inl 30)), some (.inr (.inl 47)), some (.inl i), o5, o6], [.inl (i + 1), .inr (.inl 1000004), .inr (.inl 0)], n, D, s, p, c)) rfl ?_
        refine tt_stat (j := 4) (i := (i + 1)) rfl hs (by omega) ?_
        show tt Zi 12 0 (601, [some (.inr (.inl 1000004)), some (.inr (.inl 0)), some (.inr (.inl 30)), some (.inr (.inl 47)), some (.inl i), o5, o6], [.inl ((xs ((i + 1)).toNat)), .inr (.inl 0)], n, D, s, p, c) _
        have b190 := hxs ((i + 1)).toNat
        refine tt_cl (by omega) rfl (h_end (Zi := Zi) (q := q) (n := n) (D := D) (s := s) (p := p) (c := c) (by omega) hz (by omega) hD hS hC (wp_rg hW) ((xs ((i + 1)).toNat)) (by omega)) ?_
        rintro _ ⟨n191, D192, s193, p194, c195⟩ ⟨r197, rfl, b198, hY196⟩
        have hS193 : bS s193 := hY196.1
        have hC195 : bC D192 c195 := hY196.2.1
        have hW194 : wp _ _ n191 D192 p194 s193 := hY196.2.2.1
        have FKc : fk p c n191 p194 c195 [] := hY196.2.2.2
        show tt Zi 12 0 (604, [some (.inr (.inl 1000004)), some (.inr (.inl 0)), some (.inr (.inl 30)), some (.inr (.inl 47)), some (.inl i), o5, o6], [.inl r197], n191, D192, s193, p194, c195) _
        have tc100 : s193 100 = (s 100) := hW194.gz 100 rfl
        have tc101 : s193 101 = (s 101) := hW194.gz 101 rfl
        have tc102 : s193 102 = (s 102) := hW194.gz 102 rfl
        have tc103 : s193 103 = (s 103) := hW194.gz 103 rfl
        have tc3001 : s193 3001 = (s 3001) := hW194.gz 3001 rfl
        have tc3002 : s193 3002 = (s 3002) := hW194.gz 3002 rfl
        have tc3003 : s193 3003 = (s 3003) := hW194.gz 3003 rfl
        have tc3004 : s193 3004 = (s 3004) := hW194.gz 3004 rfl
        refine tt_k 6 (S' := (612, [some (.inr (.inl 1000004)), some (.inr (.inl 0)), some (.inr (.inl 30)), some (.inr (.inl 47)), some (.inl i), some (.inl r197), o6], [.inl (i + 1), .inr (.inl 1000004), .inr (.inl 30)], n191, D192, s193, p194, c195)) rfl ?_
        refine tt_stat (j := 4) (i := (i + 1)) rfl hs (by omega) ?_
        show tt Zi 12 0 (613, [some (.inr (.inl 1000004)), some (.inr (.inl 0)), some (.inr (.inl 30)), some (.inr (.inl 47)), some (.inl i), some (.inl r197), o6], [.inl ((xs ((i + 1)).toNat)), .inr (.inl 30)], n191, D192, s193, p194, c195) _
        refine tt_cl (by omega) rfl (k_end (Zi := Zi) (D := D192) (s := s193) (p := p194) (c := c195) (by omega) hS193 hC195 ((xs ((i + 1)).toNat)) (by omega)) ?_
        rintro _ _ ⟨s199, rfl, rfl, hS199, f200, k201, k202⟩
        have hW203 := wp_rf f200 (by decide) hW194
        show tt Zi 12 0 (616, [some (.inr (.inl 1000004)), some (.inr (.inl 0)), some (.inr (.inl 30)), some (.inr (.inl 47)), some (.inl i), some (.inl r197), o6], [], n191, D192, s199, p194, c195) _
        have te100 : s199 100 = (s193 100) := f200 100 (by decide)
        have te101 : s199 101 = (s193 101) := f200 101 (by decide)
        have te102 : s199 102 = (s193 102) := f200 102 (by decide)
        have te103 : s199 103 = (s193 103) := f200 103 (by decide)
        have te3001 : s199 3001 = (s193 3001) := f200 3001 (by decide)
        have te3002 : s199 3002 = (s193 3002) := f200 3002 (by decide)
        have te3003 : s199 3003 = (s193 3003) := f200 3003 (by decide)
        have te3004 : s199 3004 = (s193 3004) := f200 3004 (by decide)
        have ht2 : tie s199 := ⟨te100.trans (tc100.trans (ht.1.trans (tc3001.symm.trans te3001.symm))), te101.trans (tc101.trans (ht.2.1.trans (tc3002.symm.trans te3002.symm))), te102.trans (tc102.trans (ht.2.2.1.trans (tc3003.symm.trans te3003.symm))), te103.trans (tc103.trans (ht.2.2.2.trans (tc3004.symm.trans te3004.symm)))⟩
        have FKr := fk_rf (c := c195) (K := []) FKc.1
        have tS2 : tiS s199 p194 c195 := tiS_fk (tiS_fk ⟨E, hcE, hrE⟩ FKc (by decide) tc100 tc101 tc102) FKr (by decide) te100 te101 te102
        clear tc100 tc101 tc102 tc103 tc3001 tc3002 tc3003 tc3004 te100 te101 te102 te103 te3001 te3002 te3003 te3004
        refine tt_k 3 (S' := (23, [some (.inr (.inl 1000004)), some (.inr (.inl 0)), some (.inr (.inl 30)), some (.inr (.inl 47)), some (.inl (i + 9)), some (.inl r197), o6], [], n191, D192, s199, p194, c195)) rfl ?_
        exact ih (q + 1) (i + 9) (some (.inl r197)) (o6) (n191, D192, s199, p194, c195) ⟨hS199, hC195, (wp_rg hW203), FKr.1⟩ ht2 tS2 (by omega) (by omega) (by omega) (by omega)
      by_cases h204 : (mi_and (xs (i).toNat) 15) = 9
      · have h205 := h204
        refine tt_tsw (x := (mi_and (xs (i).toNat) 15)) (off := 579) rfl (by omega) (by omega) (by rw [h204]; rfl) rfl ?_
        show tt Zi 12 0 (619, [some (.inr (.inl 1000004)), some (.inr (.inl 0)), some (.inr (.inl 30)), some (.inr (.inl 47)), some (.inl i), o5, o6], [], n, D, s, p, c) _
        refine tt_k 5 (S' := (625, [some (.inr (.inl 1000004)), some (.inr (.inl 0)), some (.inr (.inl 30)), some (.inr (.inl 47)), some (.inl i), o5, o6], [.inl (i + 1), .inr (.inl 1000004), .inr (.inl 0)], n, D, s, p, c)) rfl ?_
        refine tt_stat (j := 4) (i := (i + 1)) rfl hs (by omega) ?_
        show tt Zi 12 0 (626, [some (.inr (.inl 1000004)), some (.inr (.inl 0)), some (.inr (.inl 30)), some (.inr (.inl 47)), some (.inl i), o5, o6], [.inl ((xs ((i + 1)).toNat)), .inr (.inl 0)], n, D, s, p, c) _
        have b206 := hxs ((i + 1)).toNat
        refine tt_k 4 (S' := (631, [some (.inr (.inl 1000004)), some (.inr (.inl 0)), some (.inr (.inl 30)), some (.inr (.inl 47)), some (.inl i), o5, o6], [.inl (i + 2), .inr (.inl 1000004), .inl ((xs ((i + 1)).toNat)), .inr (.inl 0)], n, D, s, p, c)) rfl ?_
        refine tt_stat (j := 4) (i := (i + 2)) rfl hs (by omega) ?_
        show tt Zi 12 0 (632, [some (.inr (.inl 1000004)), some (.inr (.inl 0)), some (.inr (.inl 30)), some (.inr (.inl 47)), some (.inl i), o5, o6], [.inl ((xs ((i + 2)).toNat)), .inl ((xs ((i + 1)).toNat)), .inr (.inl 0)], n, D, s, p, c) _
        have b207 := hxs ((i + 2)).toNat
        refine tt_k 1 (S' := (633, [some (.inr (.inl 1000004)), some (.inr (.inl 0)), some (.inr (.inl 30)), some (.inr (.inl 47)), some (.inl i), o5, o6], [.inr (.inl 47), .inl ((xs ((i + 2)).toNat)), .inl ((xs ((i + 1)).toNat)), .inr (.inl 0)], n, D, s, p, c)) rfl ?_
        refine tt_cl (by omega) rfl (h_change (Zi := Zi) (q := q) (n := n) (D := D) (s := s) (p := p) (c := c) (by omega) hz (by omega) hD hS hC (wp_rg hW) ((xs ((i + 1)).toNat)) ((xs ((i + 2)).toNat)) (by omega) (by omega)) ?_
        rintro _ ⟨n208, D209, s210, p211, c212⟩ ⟨r214, rfl, b215, hY213⟩
        have hS210 : bS s210 := hY213.1
        have hC212 : bC D209 c212 := hY213.2.1
        have hW211 : wp _ _ n208 D209 p211 s210 := hY213.2.2.1
        have FKc : fk p c n208 p211 c212 [47, 600] := hY213.2.2.2
        show tt Zi 12 0 (636, [some (.inr (.inl 1000004)), some (.inr (.inl 0)), some (.inr (.inl 30)), some (.inr (.inl 47)), some (.inl i), o5, o6], [.inl r214], n208, D209, s210, p211, c212) _
        have tc100 : s210 100 = (s 100) := hW211.gz 100 rfl
        have tc101 : s210 101 = (s 101) := hW211.gz 101 rfl
        have tc102 : s210 102 = (s 102) := hW211.gz 102 rfl
        have tc103 : s210 103 = (s 103) := hW211.gz 103 rfl
        have tc3001 : s210 3001 = (s 3001) := hW211.gz 3001 rfl
        have tc3002 : s210 3002 = (s 3002) := hW211.gz 3002 rfl
        have tc3003 : s210 3003 = (s 3003) := hW211.gz 3003 rfl
        have tc3004 : s210 3004 = (s 3004) := hW211.gz 3004 rfl
        refine tt_k 6 (S' := (644, [some (.inr (.inl 1000004)), some (.inr (.inl 0)), some (.inr (.inl 30)), some (.inr (.inl 47)), some (.inl i), some (.inl r214), o6], [.inl (i + 1), .inr (.inl 1000004), .inr (.inl 30)], n208, D209, s210, p211, c212)) rfl ?_
        refine tt_stat (j := 4) (i := (i + 1)) rfl hs (by omega) ?_
        show tt Zi 12 0 (645, [some (.inr (.inl 1000004)), some (.inr (.inl 0)), some (.inr (.inl 30)), some (.inr (.inl 47)), some (.inl i), some (.inl r214), o6], [.inl ((xs ((i + 1)).toNat)), .inr (.inl 30)], n208, D209, s210, p211, c212) _
        refine tt_k 4 (S' := (650, [some (.inr (.inl 1000004)), some (.inr (.inl 0)), some (.inr (.inl 30)), some (.inr (.inl 47)), some (.inl i), some (.inl r214), o6], [.inl (i + 2), .inr (.inl 1000004), .inl ((xs ((i + 1)).toNat)), .inr (.inl 30)], n208, D209, s210, p211, c212)) rfl ?_
        refine tt_stat (j := 4) (i := (i + 2)) rfl hs (by omega) ?_
        show tt Zi 12 0 (651, [some (.inr (.inl 1000004)), some (.inr (.inl 0)), some (.inr (.inl 30)), some (.inr (.inl 47)), some (.inl i), some (.inl r214), o6], [.inl ((xs ((i + 2)).toNat)), .inl ((xs ((i + 1)).toNat)), .inr (.inl 30)], n208, D209, s210, p211, c212) _
        refine tt_cl (by omega) rfl (k_change (Zi := Zi) (D := D209) (s := s210) (p := p211) (c := c212) (by omega) hS210 hC212 ((xs ((i + 1)).toNat)) ((xs ((i + 2)).toNat)) (by omega) (by omega)) ?_
        rintro _ _ ⟨s216, c217, r218, rfl, rfl, hS216, hC217, f219, g220, b221⟩
        have hW222 := wp_rf f219 (by decide) hW211
        show tt Zi 12 0 (654, [some (.inr (.inl 1000004)), some (.inr (.inl 0)), some (.inr (.inl 30)), some (.inr (.inl 47)), some (.inl i), some (.inl r214), o6], [.inl r218], n208, D209, s216, p211, c217) _
        have te100 : s216 100 = (s210 100) := f219 100 (by decide)
        have te101 : s216 101 = (s210 101) := f219 101 (by decide)
        have te102 : s216 102 = (s210 102) := f219 102 (by decide)
        have te103 : s216 103 = (s210 103) := f219 103 (by decide)
        have te3001 : s216 3001 = (s210 3001) := f219 3001 (by decide)
        have te3002 : s216 3002 = (s210 3002) := f219 3002 (by decide)
        have te3003 : s216 3003 = (s210 3003) := f219 3003 (by decide)
        have te3004 : s216 3004 = (s210 3004) := f219 3004 (by decide)
        have ht2 : tie s216 := ⟨te100.trans (tc100.trans (ht.1.trans (tc3001.symm.trans te3001.symm))), te101.trans (tc101.trans (ht.2.1.trans (tc3002.symm.trans te3002.symm))), te102.trans (tc102.trans (ht.2.2.1.trans (tc3003.symm.trans te3003.symm))), te103.trans (tc103.trans (ht.2.2.2.trans (tc3004.symm.trans te3004.symm)))⟩
        have FKr := fk_rc FKc.1 g220 (by decide)
        have tS2 : tiS s216 p211 c217 := tiS_fk (tiS_fk ⟨E, hcE, hrE⟩ FKc (by decide) tc100 tc101 tc102) FKr (by decide) te100 te101 te102
        clear tc100 tc101 tc102 tc103 tc3001 tc3002 tc3003 tc3004 te100 te101 te102 te103 te3001 te3002 te3003 te3004
        refine tt_k 4 (S' := (23, [some (.inr (.inl 1000004)), some (.inr (.inl 0)), some (.inr (.inl 30)), some (.inr (.inl 47)), some (.inl (i + 9)), some (.inl r214), some (.inl r218)], [], n208, D209, s216, p211, c217)) rfl ?_
        exact ih (q + 1) (i + 9) (some (.inl r214)) (some (.inl r218)) (n208, D209, s216, p211, c217) ⟨hS216, hC217, (wp_rg hW222), FKr.1⟩ ht2 tS2 (by omega) (by omega) (by omega) (by omega)
      by_cases h223 : (mi_and (xs (i).toNat) 15) = 10
      · have h224 := h223
        refine tt_tsw (x := (mi_and (xs (i).toNat) 15)) (off := 619) rfl (by omega) (by omega) (by rw [h223]; rfl) rfl ?_
        show tt Zi 12 0 (659, [some (.inr (.inl 1000004)), some (.inr (.inl 0)), some (.inr (.inl 30)), some (.inr (.inl 47)), some (.inl i), o5, o6], [], n, D, s, p, c) _
        refine tt_k 2 (S' := (661, [some (.inr (.inl 1000004)), some (.inr (.inl 0)), some (.inr (.inl 30)), some (.inr (.inl 47)), some (.inl i), o5, o6], [.inr (.inl 47), .inr (.inl 0)], n, D, s, p, c)) rfl ?_
        refine tt_cl (by omega) rfl (h_turn (Zi := Zi) (q := q) (n := n) (D := D) (s := s) (p := p) (c := c) (by omega) hz (by omega) hD hS hC (wp_rg hW) ) ?_
        rintro _ ⟨n225, D226, s227, p228, c229⟩ ⟨r231, rfl, b232, hY230⟩
        have hS227 : bS s227 := hY230.1
        have hC229 : bC D226 c229 := hY230.2.1
        have hW228 : wp _ _ n225 D226 p228 s227 := hY230.2.2.1
        have FKc : fk p c n225 p228 c229 [47, 600] := hY230.2.2.2
        show tt Zi 12 0 (664, [some (.inr (.inl 1000004)), some (.inr (.inl 0)), some (.inr (.inl 30)), some (.inr (.inl 47)), some (.inl i), o5, o6], [.inl r231], n225, D226, s227, p228, c229) _
        have tc100 : s227 100 = (s 100) := hW228.gz 100 rfl
        have tc101 : s227 101 = (s 101) := hW228.gz 101 rfl
        have tc102 : s227 102 = (s 102) := hW228.gz 102 rfl
        have tc103 : s227 103 = (s 103) := hW228.gz 103 rfl
        have tc3001 : s227 3001 = (s 3001) := hW228.gz 3001 rfl
        have tc3002 : s227 3002 = (s 3002) := hW228.gz 3002 rfl
        have tc3003 : s227 3003 = (s 3003) := hW228.gz 3003 rfl
        have tc3004 : s227 3004 = (s 3004) := hW228.gz 3004 rfl
        refine tt_k 2 (S' := (667, [some (.inr (.inl 1000004)), some (.inr (.inl 0)), some (.inr (.inl 30)), some (.inr (.inl 47)), some (.inl i), some (.inl r231), o6], [.inr (.inl 30)], n225, D226, s227, p228, c229)) rfl ?_
        refine tt_cl (by omega) rfl (k_turn (Zi := Zi) (D := D226) (s := s227) (p := p228) (c := c229) (by omega) hS227 hC229 ) ?_
        rintro _ _ ⟨s233, c234, r235, rfl, rfl, hS233, hC234, f236, g237, b238⟩
        have hW239 := wp_rf f236 (by decide) hW228
        show tt Zi 12 0 (670, [some (.inr (.inl 1000004)), some (.inr (.inl 0)), some (.inr (.inl 30)), some (.inr (.inl 47)), some (.inl i), some (.inl r231), o6], [.inl r235], n225, D226, s233, p228, c234) _
        have te100 : s233 100 = (s227 100) := f236 100 (by decide)
        have te101 : s233 101 = (s227 101) := f236 101 (by decide)
        have te102 : s233 102 = (s227 102) := f236 102 (by decide)
        have te103 : s233 103 = (s227 103) := f236 103 (by decide)
        have te3001 : s233 3001 = (s227 3001) := f236 3001 (by decide)
        have te3002 : s233 3002 = (s227 3002) := f236 3002 (by decide)
        have te3003 : s233 3003 = (s227 3003) := f236 3003 (by decide)
        have te3004 : s233 3004 = (s227 3004) := f236 3004 (by decide)
        have ht2 : tie s233 := ⟨te100.trans (tc100.trans (ht.1.trans (tc3001.symm.trans te3001.symm))), te101.trans (tc101.trans (ht.2.1.trans (tc3002.symm.trans te3002.symm))), te102.trans (tc102.trans (ht.2.2.1.trans (tc3003.symm.trans te3003.symm))), te103.trans (tc103.trans (ht.2.2.2.trans (tc3004.symm.trans te3004.symm)))⟩
        have FKr := fk_rc FKc.1 g237 (by decide)
        have tS2 : tiS s233 p228 c234 := tiS_fk (tiS_fk ⟨E, hcE, hrE⟩ FKc (by decide) tc100 tc101 tc102) FKr (by decide) te100 te101 te102
        clear tc100 tc101 tc102 tc103 tc3001 tc3002 tc3003 tc3004 te100 te101 te102 te103 te3001 te3002 te3003 te3004
        refine tt_k 4 (S' := (23, [some (.inr (.inl 1000004)), some (.inr (.inl 0)), some (.inr (.inl 30)), some (.inr (.inl 47)), some (.inl (i + 9)), some (.inl r231), some (.inl r235)], [], n225, D226, s233, p228, c234)) rfl ?_
        exact ih (q + 1) (i + 9) (some (.inl r231)) (some (.inl r235)) (n225, D226, s233, p228, c234) ⟨hS233, hC234, (wp_rg hW239), FKr.1⟩ ht2 tS2 (by omega) (by omega) (by omega) (by omega)
      by_cases h240 : (mi_and (xs (i).toNat) 15) = 11
      · have h241 := h240
        refine tt_tsw (x := (mi_and (xs (i).toNat) 15)) (off := 635) rfl (by omega) (by omega) (by rw [h240]; rfl) rfl ?_
        show tt Zi 12 0 (675, [some (.inr (.inl 1000004)), some (.inr (.inl 0)), some (.inr (.inl 30)), some (.inr (.inl 47)), some (.inl i), o5, o6], [], n, D, s, p, c) _
        refine tt_k 1 (S' := (676, [some (.inr (.inl 1000004)), some (.inr (.inl 0)), some (.inr (.inl 30)), some (.inr (.inl 47)), some (.inl i), o5, o6], [.inr (.inl 0)], n, D, s, p, c)) rfl ?_
        refine tt_cl (by omega) rfl (g_unpack (Zi := Zi) (q := q) (n := n) (D := D) (s := s) (p := p) (c := c) (by omega) hz (by omega) hD hS hC (wp_rg hW) ) ?_
        rintro _ ⟨n242, D243, s244, p245, c246⟩ ⟨r248, rfl, b249, hY247⟩
        have hS244 : bS s244 := hY247.1
        have hC246 : bC D243 c246 := hY247.2.1
        have hW245 : wp _ _ n242 D243 p245 s244 := hY247.2.2.1
        have FKc : fk p c n242 p245 c246 [18, 19, 900, 901, 2103, 2104, 2504, 2704] := hY247.2.2.2
        show tt Zi 12 0 (679, [some (.inr (.inl 1000004)), some (.inr (.inl 0)), some (.inr (.inl 30)), some (.inr (.inl 47)), some (.inl i), o5, o6], [.inl r248], n242, D243, s244, p245, c246) _
        have tc100 : s244 100 = (s 100) := hW245.gz 100 rfl
        have tc101 : s244 101 = (s 101) := hW245.gz 101 rfl
        have tc102 : s244 102 = (s 102) := hW245.gz 102 rfl
        have tc103 : s244 103 = (s 103) := hW245.gz 103 rfl
        have tc3001 : s244 3001 = (s 3001) := hW245.gz 3001 rfl
        have tc3002 : s244 3002 = (s 3002) := hW245.gz 3002 rfl
        have tc3003 : s244 3003 = (s 3003) := hW245.gz 3003 rfl
        have tc3004 : s244 3004 = (s 3004) := hW245.gz 3004 rfl
        refine tt_k 2 (S' := (681, [some (.inr (.inl 1000004)), some (.inr (.inl 0)), some (.inr (.inl 30)), some (.inr (.inl 47)), some (.inl i), o5, o6], [.inr (.inl 30)], n242, D243, s244, p245, c246)) rfl ?_
        refine tt_cl (by omega) rfl (k_unpack (Zi := Zi) (D := D243) (s := s244) (p := p245) (c := c246) (by omega) hS244 hC246 ) ?_
        rintro _ _ ⟨s250, c251, r252, rfl, rfl, hS250, hC251, f253, g254, b255⟩
        have hW256 := wp_rf f253 (by decide) hW245
        show tt Zi 12 0 (684, [some (.inr (.inl 1000004)), some (.inr (.inl 0)), some (.inr (.inl 30)), some (.inr (.inl 47)), some (.inl i), o5, o6], [.inl r252], n242, D243, s250, p245, c251) _
        have te100 : s250 100 = (s244 100) := f253 100 (by decide)
        have te101 : s250 101 = (s244 101) := f253 101 (by decide)
        have te102 : s250 102 = (s244 102) := f253 102 (by decide)
        have te103 : s250 103 = (s244 103) := f253 103 (by decide)
        have te3001 : s250 3001 = (s244 3001) := f253 3001 (by decide)
        have te3002 : s250 3002 = (s244 3002) := f253 3002 (by decide)
        have te3003 : s250 3003 = (s244 3003) := f253 3003 (by decide)
        have te3004 : s250 3004 = (s244 3004) := f253 3004 (by decide)
        have ht2 : tie s250 := ⟨te100.trans (tc100.trans (ht.1.trans (tc3001.symm.trans te3001.symm))), te101.trans (tc101.trans (ht.2.1.trans (tc3002.symm.trans te3002.symm))), te102.trans (tc102.trans (ht.2.2.1.trans (tc3003.symm.trans te3003.symm))), te103.trans (tc103.trans (ht.2.2.2.trans (tc3004.symm.trans te3004.symm)))⟩
        have FKr := fk_rc FKc.1 g254 (by decide)
        have tS2 : tiS s250 p245 c251 := tiS_fk (tiS_fk ⟨E, hcE, hrE⟩ FKc (by decide) tc100 tc101 tc102) FKr (by decide) te100 te101 te102
        clear tc100 tc101 tc102 tc103 tc3001 tc3002 tc3003 tc3004 te100 te101 te102 te103 te3001 te3002 te3003 te3004
        refine tt_k 4 (S' := (23, [some (.inr (.inl 1000004)), some (.inr (.inl 0)), some (.inr (.inl 30)), some (.inr (.inl 47)), some (.inl (i + 9)), o5, o6], [], n242, D243, s250, p245, c251)) rfl ?_
        exact ih (q + 1) (i + 9) (o5) (o6) (n242, D243, s250, p245, c251) ⟨hS250, hC251, (wp_rg hW256), FKr.1⟩ ht2 tS2 (by omega) (by omega) (by omega) (by omega)
      by_cases h257 : (mi_and (xs (i).toNat) 15) = 12
      · have h258 := h257
        refine tt_tsw (x := (mi_and (xs (i).toNat) 15)) (off := 648) rfl (by omega) (by omega) (by rw [h257]; rfl) rfl ?_
        show tt Zi 12 0 (688, [some (.inr (.inl 1000004)), some (.inr (.inl 0)), some (.inr (.inl 30)), some (.inr (.inl 47)), some (.inl i), o5, o6], [], n, D, s, p, c) _
        refine tt_k 1 (S' := (689, [some (.inr (.inl 1000004)), some (.inr (.inl 0)), some (.inr (.inl 30)), some (.inr (.inl 47)), some (.inl i), o5, o6], [.inr (.inl 0)], n, D, s, p, c)) rfl ?_
        refine tt_cl (by omega) rfl (g_place (Zi := Zi) (q := q) (n := n) (D := D) (s := s) (p := p) (c := c) (by omega) hz (by omega) hD hS hC (wp_rg hW) ) ?_
        rintro _ ⟨n259, D260, s261, p262, c263⟩ ⟨r265, rfl, b266, hY264⟩
        have hS261 : bS s261 := hY264.1
        have hC263 : bC D260 c263 := hY264.2.1
        have hW262 : wp _ _ n259 D260 p262 s261 := hY264.2.2.1
        have FKc : fk p c n259 p262 c263 [] := hY264.2.2.2
        show tt Zi 12 0 (692, [some (.inr (.inl 1000004)), some (.inr (.inl 0)), some (.inr (.inl 30)), some (.inr (.inl 47)), some (.inl i), o5, o6], [.inl r265], n259, D260, s261, p262, c263) _
        have tc100 : s261 100 = (s 100) := hW262.gz 100 rfl
        have tc101 : s261 101 = (s 101) := hW262.gz 101 rfl
        have tc102 : s261 102 = (s 102) := hW262.gz 102 rfl
        have tc103 : s261 103 = (s 103) := hW262.gz 103 rfl
        have tc3001 : s261 3001 = (s 3001) := hW262.gz 3001 rfl
        have tc3002 : s261 3002 = (s 3002) := hW262.gz 3002 rfl
        have tc3003 : s261 3003 = (s 3003) := hW262.gz 3003 rfl
        have tc3004 : s261 3004 = (s 3004) := hW262.gz 3004 rfl
        refine tt_k 2 (S' := (694, [some (.inr (.inl 1000004)), some (.inr (.inl 0)), some (.inr (.inl 30)), some (.inr (.inl 47)), some (.inl i), o5, o6], [.inr (.inl 30)], n259, D260, s261, p262, c263)) rfl ?_
        refine tt_cl (by omega) rfl (k_place (Zi := Zi) (D := D260) (s := s261) (p := p262) (c := c263) (by omega) hS261 hC263 ) ?_
        rintro _ _ ⟨s267, r268, rfl, rfl, hS267, f269, b270, k271, k272⟩
        have hW273 := wp_rf f269 (by decide) hW262
        show tt Zi 12 0 (697, [some (.inr (.inl 1000004)), some (.inr (.inl 0)), some (.inr (.inl 30)), some (.inr (.inl 47)), some (.inl i), o5, o6], [.inl r268], n259, D260, s267, p262, c263) _
        have te100 : s267 100 = (s261 100) := f269 100 (by decide)
        have te101 : s267 101 = (s261 101) := f269 101 (by decide)
        have te102 : s267 102 = (s261 102) := f269 102 (by decide)
        have te103 : s267 103 = (s261 103) := f269 103 (by decide)
        have te3001 : s267 3001 = (s261 3001) := f269 3001 (by decide)
        have te3002 : s267 3002 = (s261 3002) := f269 3002 (by decide)
        have te3003 : s267 3003 = (s261 3003) := f269 3003 (by decide)
        have te3004 : s267 3004 = (s261 3004) := f269 3004 (by decide)
        have ht2 : tie s267 := ⟨te100.trans (tc100.trans (ht.1.trans (tc3001.symm.trans te3001.symm))), te101.trans (tc101.trans (ht.2.1.trans (tc3002.symm.trans te3002.symm))), te102.trans (tc102.trans (ht.2.2.1.trans (tc3003.symm.trans te3003.symm))), te103.trans (tc103.trans (ht.2.2.2.trans (tc3004.symm.trans te3004.symm)))⟩
        have FKr := fk_rf (c := c263) (K := []) FKc.1
        have tS2 : tiS s267 p262 c263 := tiS_fk (tiS_fk ⟨E, hcE, hrE⟩ FKc (by decide) tc100 tc101 tc102) FKr (by decide) te100 te101 te102
        clear tc100 tc101 tc102 tc103 tc3001 tc3002 tc3003 tc3004 te100 te101 te102 te103 te3001 te3002 te3003 te3004
        refine tt_k 4 (S' := (23, [some (.inr (.inl 1000004)), some (.inr (.inl 0)), some (.inr (.inl 30)), some (.inr (.inl 47)), some (.inl (i + 9)), o5, o6], [], n259, D260, s267, p262, c263)) rfl ?_
        exact ih (q + 1) (i + 9) (o5) (o6) (n259, D260, s267, p262, c263) ⟨hS267, hC263, (wp_rg hW273), FKr.1⟩ ht2 tS2 (by omega) (by omega) (by omega) (by omega)
      by_cases h274 : (mi_and (xs (i).toNat) 15) = 13
      · have h275 := h274
        refine tt_tsw (x := (mi_and (xs (i).toNat) 15)) (off := 661) rfl (by omega) (by omega) (by rw [h274]; rfl) rfl ?_
        show tt Zi 12 0 (701, [some (.inr (.inl 1000004)), some (.inr (.inl 0)), some (.inr (.inl 30)), some (.inr (.inl 47)), some (.inl i), o5, o6], [], n, D, s, p, c) _
        refine tt_k 5 (S' := (707, [some (.inr (.inl 1000004)), some (.inr (.inl 0)), some (.inr (.inl 30)), some (.inr (.inl 47)), some (.inl i), o5, o6], [.inl (i + 1), .inr (.inl 1000004), .inr (.inl 0)], n, D, s, p, c)) rfl ?_
        refine tt_stat (j := 4) (i := (i + 1)) rfl hs (by omega) ?_
        show tt Zi 12 0 (708, [some (.inr (.inl 1000004)), some (.inr (.inl 0)), some (.inr (.inl 30)), some (.inr (.inl 47)), some (.inl i), o5, o6], [.inl ((xs ((i + 1)).toNat)), .inr (.inl 0)], n, D, s, p, c) _
        have b276 := hxs ((i + 1)).toNat
        refine tt_k 1 (S' := (709, [some (.inr (.inl 1000004)), some (.inr (.inl 0)), some (.inr (.inl 30)), some (.inr (.inl 47)), some (.inl i), o5, o6], [.inr (.inl 47), .inl ((xs ((i + 1)).toNat)), .inr (.inl 0)], n, D, s, p, c)) rfl ?_
        refine tt_cl (by omega) rfl (h_about (Zi := Zi) (q := q) (n := n) (D := D) (s := s) (p := p) (c := c) (by omega) hz (by omega) hD hS hC (wp_rg hW) ((xs ((i + 1)).toNat)) (by omega)) ?_
        rintro _ ⟨n277, D278, s279, p280, c281⟩ ⟨r283, rfl, b284, hY282⟩
        have hS279 : bS s279 := hY282.1
        have hC281 : bC D278 c281 := hY282.2.1
        have hW280 : wp _ _ n277 D278 p280 s279 := hY282.2.2.1
        have FKc : fk p c n277 p280 c281 [47] := hY282.2.2.2
        show tt Zi 12 0 (712, [some (.inr (.inl 1000004)), some (.inr (.inl 0)), some (.inr (.inl 30)), some (.inr (.inl 47)), some (.inl i), o5, o6], [.inl r283], n277, D278, s279, p280, c281) _
        have tc100 : s279 100 = (s 100) := hW280.gz 100 rfl
        have tc101 : s279 101 = (s 101) := hW280.gz 101 rfl
        have tc102 : s279 102 = (s 102) := hW280.gz 102 rfl
        have tc103 : s279 103 = (s 103) := hW280.gz 103 rfl
        have tc3001 : s279 3001 = (s 3001) := hW280.gz 3001 rfl
        have tc3002 : s279 3002 = (s 3002) := hW280.gz 3002 rfl
        have tc3003 : s279 3003 = (s 3003) := hW280.gz 3003 rfl
        have tc3004 : s279 3004 = (s 3004) := hW280.gz 3004 rfl
        refine tt_k 6 (S' := (720, [some (.inr (.inl 1000004)), some (.inr (.inl 0)), some (.inr (.inl 30)), some (.inr (.inl 47)), some (.inl i), some (.inl r283), o6], [.inl (i + 1), .inr (.inl 1000004), .inr (.inl 30)], n277, D278, s279, p280, c281)) rfl ?_
        refine tt_stat (j := 4) (i := (i + 1)) rfl hs (by omega) ?_
        show tt Zi 12 0 (721, [some (.inr (.inl 1000004)), some (.inr (.inl 0)), some (.inr (.inl 30)), some (.inr (.inl 47)), some (.inl i), some (.inl r283), o6], [.inl ((xs ((i + 1)).toNat)), .inr (.inl 30)], n277, D278, s279, p280, c281) _
        refine tt_cl (by omega) rfl (k_about (Zi := Zi) (D := D278) (s := s279) (p := p280) (c := c281) (by omega) hS279 hC281 ((xs ((i + 1)).toNat)) (by omega)) ?_
        rintro _ _ ⟨s285, r286, rfl, rfl, hS285, f287, b288⟩
        have hW289 := wp_rf f287 (by decide) hW280
        show tt Zi 12 0 (724, [some (.inr (.inl 1000004)), some (.inr (.inl 0)), some (.inr (.inl 30)), some (.inr (.inl 47)), some (.inl i), some (.inl r283), o6], [.inl r286], n277, D278, s285, p280, c281) _
        have te100 : s285 100 = (s279 100) := f287 100 (by decide)
        have te101 : s285 101 = (s279 101) := f287 101 (by decide)
        have te102 : s285 102 = (s279 102) := f287 102 (by decide)
        have te103 : s285 103 = (s279 103) := f287 103 (by decide)
        have te3001 : s285 3001 = (s279 3001) := f287 3001 (by decide)
        have te3002 : s285 3002 = (s279 3002) := f287 3002 (by decide)
        have te3003 : s285 3003 = (s279 3003) := f287 3003 (by decide)
        have te3004 : s285 3004 = (s279 3004) := f287 3004 (by decide)
        have ht2 : tie s285 := ⟨te100.trans (tc100.trans (ht.1.trans (tc3001.symm.trans te3001.symm))), te101.trans (tc101.trans (ht.2.1.trans (tc3002.symm.trans te3002.symm))), te102.trans (tc102.trans (ht.2.2.1.trans (tc3003.symm.trans te3003.symm))), te103.trans (tc103.trans (ht.2.2.2.trans (tc3004.symm.trans te3004.symm)))⟩
        have FKr := fk_rf (c := c281) (K := []) FKc.1
        have tS2 : tiS s285 p280 c281 := tiS_fk (tiS_fk ⟨E, hcE, hrE⟩ FKc (by decide) tc100 tc101 tc102) FKr (by decide) te100 te101 te102
        clear tc100 tc101 tc102 tc103 tc3001 tc3002 tc3003 tc3004 te100 te101 te102 te103 te3001 te3002 te3003 te3004
        refine tt_k 4 (S' := (23, [some (.inr (.inl 1000004)), some (.inr (.inl 0)), some (.inr (.inl 30)), some (.inr (.inl 47)), some (.inl (i + 9)), some (.inl r283), some (.inl r286)], [], n277, D278, s285, p280, c281)) rfl ?_
        exact ih (q + 1) (i + 9) (some (.inl r283)) (some (.inl r286)) (n277, D278, s285, p280, c281) ⟨hS285, hC281, (wp_rg hW289), FKr.1⟩ ht2 tS2 (by omega) (by omega) (by omega) (by omega)
      by_cases h290 : (mi_and (xs (i).toNat) 15) = 14
      · have h291 := h290
        refine tt_tsw (x := (mi_and (xs (i).toNat) 15)) (off := 689) rfl (by omega) (by omega) (by rw [h290]; rfl) rfl ?_
        show tt Zi 12 0 (729, [some (.inr (.inl 1000004)), some (.inr (.inl 0)), some (.inr (.inl 30)), some (.inr (.inl 47)), some (.inl i), o5, o6], [], n, D, s, p, c) _
        refine tt_k 5 (S' := (735, [some (.inr (.inl 1000004)), some (.inr (.inl 0)), some (.inr (.inl 30)), some (.inr (.inl 47)), some (.inl i), o5, o6], [.inl (i + 1), .inr (.inl 1000004), .inr (.inl 0)], n, D, s, p, c)) rfl ?_
        refine tt_stat (j := 4) (i := (i + 1)) rfl hs (by omega) ?_
        show tt Zi 12 0 (736, [some (.inr (.inl 1000004)), some (.inr (.inl 0)), some (.inr (.inl 30)), some (.inr (.inl 47)), some (.inl i), o5, o6], [.inl ((xs ((i + 1)).toNat)), .inr (.inl 0)], n, D, s, p, c) _
        have b292 := hxs ((i + 1)).toNat
        refine tt_k 4 (S' := (741, [some (.inr (.inl 1000004)), some (.inr (.inl 0)), some (.inr (.inl 30)), some (.inr (.inl 47)), some (.inl i), o5, o6], [.inl (i + 2), .inr (.inl 1000004), .inl ((xs ((i + 1)).toNat)), .inr (.inl 0)], n, D, s, p, c)) rfl ?_
        refine tt_stat (j := 4) (i := (i + 2)) rfl hs (by omega) ?_
        show tt Zi 12 0 (742, [some (.inr (.inl 1000004)), some (.inr (.inl 0)), some (.inr (.inl 30)), some (.inr (.inl 47)), some (.inl i), o5, o6], [.inl ((xs ((i + 2)).toNat)), .inl ((xs ((i + 1)).toNat)), .inr (.inl 0)], n, D, s, p, c) _
        have b293 := hxs ((i + 2)).toNat
        refine tt_k 4 (S' := (747, [some (.inr (.inl 1000004)), some (.inr (.inl 0)), some (.inr (.inl 30)), some (.inr (.inl 47)), some (.inl i), o5, o6], [.inl (i + 3), .inr (.inl 1000004), .inl ((xs ((i + 2)).toNat)), .inl ((xs ((i + 1)).toNat)), .inr (.inl 0)], n, D, s, p, c)) rfl ?_
        refine tt_stat (j := 4) (i := (i + 3)) rfl hs (by omega) ?_
        show tt Zi 12 0 (748, [some (.inr (.inl 1000004)), some (.inr (.inl 0)), some (.inr (.inl 30)), some (.inr (.inl 47)), some (.inl i), o5, o6], [.inl ((xs ((i + 3)).toNat)), .inl ((xs ((i + 2)).toNat)), .inl ((xs ((i + 1)).toNat)), .inr (.inl 0)], n, D, s, p, c) _
        have b294 := hxs ((i + 3)).toNat
        refine tt_k 1 (S' := (749, [some (.inr (.inl 1000004)), some (.inr (.inl 0)), some (.inr (.inl 30)), some (.inr (.inl 47)), some (.inl i), o5, o6], [.inr (.inl 47), .inl ((xs ((i + 3)).toNat)), .inl ((xs ((i + 2)).toNat)), .inl ((xs ((i + 1)).toNat)), .inr (.inl 0)], n, D, s, p, c)) rfl ?_
        refine tt_cl (by omega) rfl (h_sample (Zi := Zi) (q := q) (n := n) (D := D) (s := s) (p := p) (c := c) (by omega) hz (by omega) hD hS hC (wp_rg hW) ((xs ((i + 1)).toNat)) ((xs ((i + 2)).toNat)) ((xs ((i + 3)).toNat)) (by omega) (by omega) (by omega)) ?_
        rintro _ ⟨n295, D296, s297, p298, c299⟩ ⟨r301, rfl, b302, hY300⟩
        have hS297 : bS s297 := hY300.1
        have hC299 : bC D296 c299 := hY300.2.1
        have hW298 : wp _ _ n295 D296 p298 s297 := hY300.2.2.1
        have FKc : fk p c n295 p298 c299 [47] := hY300.2.2.2
        show tt Zi 12 0 (752, [some (.inr (.inl 1000004)), some (.inr (.inl 0)), some (.inr (.inl 30)), some (.inr (.inl 47)), some (.inl i), o5, o6], [.inl r301], n295, D296, s297, p298, c299) _
        have tc100 : s297 100 = (s 100) := hW298.gz 100 rfl
        have tc101 : s297 101 = (s 101) := hW298.gz 101 rfl
        have tc102 : s297 102 = (s 102) := hW298.gz 102 rfl
        have tc103 : s297 103 = (s 103) := hW298.gz 103 rfl
        have tc3001 : s297 3001 = (s 3001) := hW298.gz 3001 rfl
        have tc3002 : s297 3002 = (s 3002) := hW298.gz 3002 rfl
        have tc3003 : s297 3003 = (s 3003) := hW298.gz 3003 rfl
        have tc3004 : s297 3004 = (s 3004) := hW298.gz 3004 rfl
        refine tt_k 6 (S' := (760, [some (.inr (.inl 1000004)), some (.inr (.inl 0)), some (.inr (.inl 30)), some (.inr (.inl 47)), some (.inl i), some (.inl r301), o6], [.inl (i + 1), .inr (.inl 1000004), .inr (.inl 30)], n295, D296, s297, p298, c299)) rfl ?_
        refine tt_stat (j := 4) (i := (i + 1)) rfl hs (by omega) ?_
        show tt Zi 12 0 (761, [some (.inr (.inl 1000004)), some (.inr (.inl 0)), some (.inr (.inl 30)), some (.inr (.inl 47)), some (.inl i), some (.inl r301), o6], [.inl ((xs ((i + 1)).toNat)), .inr (.inl 30)], n295, D296, s297, p298, c299) _
        refine tt_k 4 (S' := (766, [some (.inr (.inl 1000004)), some (.inr (.inl 0)), some (.inr (.inl 30)), some (.inr (.inl 47)), some (.inl i), some (.inl r301), o6], [.inl (i + 2), .inr (.inl 1000004), .inl ((xs ((i + 1)).toNat)), .inr (.inl 30)], n295, D296, s297, p298, c299)) rfl ?_
        refine tt_stat (j := 4) (i := (i + 2)) rfl hs (by omega) ?_
        show tt Zi 12 0 (767, [some (.inr (.inl 1000004)), some (.inr (.inl 0)), some (.inr (.inl 30)), some (.inr (.inl 47)), some (.inl i), some (.inl r301), o6], [.inl ((xs ((i + 2)).toNat)), .inl ((xs ((i + 1)).toNat)), .inr (.inl 30)], n295, D296, s297, p298, c299) _
        refine tt_k 4 (S' := (772, [some (.inr (.inl 1000004)), some (.inr (.inl 0)), some (.inr (.inl 30)), some (.inr (.inl 47)), some (.inl i), some (.inl r301), o6], [.inl (i + 3), .inr (.inl 1000004), .inl ((xs ((i + 2)).toNat)), .inl ((xs ((i + 1)).toNat)), .inr (.inl 30)], n295, D296, s297, p298, c299)) rfl ?_
        refine tt_stat (j := 4) (i := (i + 3)) rfl hs (by omega) ?_
        show tt Zi 12 0 (773, [some (.inr (.inl 1000004)), some (.inr (.inl 0)), some (.inr (.inl 30)), some (.inr (.inl 47)), some (.inl i), some (.inl r301), o6], [.inl ((xs ((i + 3)).toNat)), .inl ((xs ((i + 2)).toNat)), .inl ((xs ((i + 1)).toNat)), .inr (.inl 30)], n295, D296, s297, p298, c299) _
        refine tt_cl (by omega) rfl (k_sample (Zi := Zi) (D := D296) (s := s297) (p := p298) (c := c299) (by omega) hS297 hC299 ((xs ((i + 1)).toNat)) ((xs ((i + 2)).toNat)) ((xs ((i + 3)).toNat)) (by omega) (by omega) (by omega)) ?_
        rintro _ _ ⟨s303, r304, rfl, rfl, hS303, f305, b306⟩
        have hW307 := wp_rf f305 (by decide) hW298
        show tt Zi 12 0 (776, [some (.inr (.inl 1000004)), some (.inr (.inl 0)), some (.inr (.inl 30)), some (.inr (.inl 47)), some (.inl i), some (.inl r301), o6], [.inl r304], n295, D296, s303, p298, c299) _
        have te100 : s303 100 = (s297 100) := f305 100 (by decide)
        have te101 : s303 101 = (s297 101) := f305 101 (by decide)
        have te102 : s303 102 = (s297 102) := f305 102 (by decide)
        have te103 : s303 103 = (s297 103) := f305 103 (by decide)
        have te3001 : s303 3001 = (s297 3001) := f305 3001 (by decide)
        have te3002 : s303 3002 = (s297 3002) := f305 3002 (by decide)
        have te3003 : s303 3003 = (s297 3003) := f305 3003 (by decide)
        have te3004 : s303 3004 = (s297 3004) := f305 3004 (by decide)
        have ht2 : tie s303 := ⟨te100.trans (tc100.trans (ht.1.trans (tc3001.symm.trans te3001.symm))), te101.trans (tc101.trans (ht.2.1.trans (tc3002.symm.trans te3002.symm))), te102.trans (tc102.trans (ht.2.2.1.trans (tc3003.symm.trans te3003.symm))), te103.trans (tc103.trans (ht.2.2.2.trans (tc3004.symm.trans te3004.symm)))⟩
        have FKr := fk_rf (c := c299) (K := []) FKc.1
        have tS2 : tiS s303 p298 c299 := tiS_fk (tiS_fk ⟨E, hcE, hrE⟩ FKc (by decide) tc100 tc101 tc102) FKr (by decide) te100 te101 te102
        clear tc100 tc101 tc102 tc103 tc3001 tc3002 tc3003 tc3004 te100 te101 te102 te103 te3001 te3002 te3003 te3004
        refine tt_k 4 (S' := (23, [some (.inr (.inl 1000004)), some (.inr (.inl 0)), some (.inr (.inl 30)), some (.inr (.inl 47)), some (.inl (i + 9)), some (.inl r301), some (.inl r304)], [], n295, D296, s303, p298, c299)) rfl ?_
        exact ih (q + 1) (i + 9) (some (.inl r301)) (some (.inl r304)) (n295, D296, s303, p298, c299) ⟨hS303, hC299, (wp_rg hW307), FKr.1⟩ ht2 tS2 (by omega) (by omega) (by omega) (by omega)
      by_cases h308 : (mi_and (xs (i).toNat) 15) = 15
      · have h309 := h308
        refine tt_tsw (x := (mi_and (xs (i).toNat) 15)) (off := 741) rfl (by omega) (by omega) (by rw [h308]; rfl) rfl ?_
        show tt Zi 12 0 (781, [some (.inr (.inl 1000004)), some (.inr (.inl 0)), some (.inr (.inl 30)), some (.inr (.inl 47)), some (.inl i), o5, o6], [], n, D, s, p, c) _
        refine tt_k 5 (S' := (787, [some (.inr (.inl 1000004)), some (.inr (.inl 0)), some (.inr (.inl 30)), some (.inr (.inl 47)), some (.inl i), o5, o6], [.inl (i + 1), .inr (.inl 1000004), .inr (.inl 0)], n, D, s, p, c)) rfl ?_
        refine tt_stat (j := 4) (i := (i + 1)) rfl hs (by omega) ?_
        show tt Zi 12 0 (788, [some (.inr (.inl 1000004)), some (.inr (.inl 0)), some (.inr (.inl 30)), some (.inr (.inl 47)), some (.inl i), o5, o6], [.inl ((xs ((i + 1)).toNat)), .inr (.inl 0)], n, D, s, p, c) _
        have b310 := hxs ((i + 1)).toNat
        refine tt_k 4 (S' := (793, [some (.inr (.inl 1000004)), some (.inr (.inl 0)), some (.inr (.inl 30)), some (.inr (.inl 47)), some (.inl i), o5, o6], [.inl (i + 2), .inr (.inl 1000004), .inl ((xs ((i + 1)).toNat)), .inr (.inl 0)], n, D, s, p, c)) rfl ?_
        refine tt_stat (j := 4) (i := (i + 2)) rfl hs (by omega) ?_
        show tt Zi 12 0 (794, [some (.inr (.inl 1000004)), some (.inr (.inl 0)), some (.inr (.inl 30)), some (.inr (.inl 47)), some (.inl i), o5, o6], [.inl ((xs ((i + 2)).toNat)), .inl ((xs ((i + 1)).toNat)), .inr (.inl 0)], n, D, s, p, c) _
        have b311 := hxs ((i + 2)).toNat
        refine tt_k 1 (S' := (795, [some (.inr (.inl 1000004)), some (.inr (.inl 0)), some (.inr (.inl 30)), some (.inr (.inl 47)), some (.inl i), o5, o6], [.inr (.inl 47), .inl ((xs ((i + 2)).toNat)), .inl ((xs ((i + 1)).toNat)), .inr (.inl 0)], n, D, s, p, c)) rfl ?_
        refine tt_cl (by omega) rfl (h_learned (Zi := Zi) (q := q) (n := n) (D := D) (s := s) (p := p) (c := c) (by omega) hz (by omega) hD hS hC (wp_rg hW) ((xs ((i + 1)).toNat)) ((xs ((i + 2)).toNat)) (by omega) (by omega)) ?_
        rintro _ ⟨n312, D313, s314, p315, c316⟩ ⟨r318, rfl, b319, hY317⟩
        have hS314 : bS s314 := hY317.1
        have hC316 : bC D313 c316 := hY317.2.1
        have hW315 : wp _ _ n312 D313 p315 s314 := hY317.2.2.1
        have FKc : fk p c n312 p315 c316 [47] := hY317.2.2.2
        show tt Zi 12 0 (798, [some (.inr (.inl 1000004)), some (.inr (.inl 0)), some (.inr (.inl 30)), some (.inr (.inl 47)), some (.inl i), o5, o6], [.inl r318], n312, D313, s314, p315, c316) _
        have tc100 : s314 100 = (s 100) := hW315.gz 100 rfl
        have tc101 : s314 101 = (s 101) := hW315.gz 101 rfl
        have tc102 : s314 102 = (s 102) := hW315.gz 102 rfl
        have tc103 : s314 103 = (s 103) := hW315.gz 103 rfl
        have tc3001 : s314 3001 = (s 3001) := hW315.gz 3001 rfl
        have tc3002 : s314 3002 = (s 3002) := hW315.gz 3002 rfl
        have tc3003 : s314 3003 = (s 3003) := hW315.gz 3003 rfl
        have tc3004 : s314 3004 = (s 3004) := hW315.gz 3004 rfl
        refine tt_k 6 (S' := (806, [some (.inr (.inl 1000004)), some (.inr (.inl 0)), some (.inr (.inl 30)), some (.inr (.inl 47)), some (.inl i), some (.inl r318), o6], [.inl (i + 1), .inr (.inl 1000004), .inr (.inl 30)], n312, D313, s314, p315, c316)) rfl ?_
        refine tt_stat (j := 4) (i := (i + 1)) rfl hs (by omega) ?_
        show tt Zi 12 0 (807, [some (.inr (.inl 1000004)), some (.inr (.inl 0)), some (.inr (.inl 30)), some (.inr (.inl 47)), some (.inl i), some (.inl r318), o6], [.inl ((xs ((i + 1)).toNat)), .inr (.inl 30)], n312, D313, s314, p315, c316) _
        refine tt_k 4 (S' := (812, [some (.inr (.inl 1000004)), some (.inr (.inl 0)), some (.inr (.inl 30)), some (.inr (.inl 47)), some (.inl i), some (.inl r318), o6], [.inl (i + 2), .inr (.inl 1000004), .inl ((xs ((i + 1)).toNat)), .inr (.inl 30)], n312, D313, s314, p315, c316)) rfl ?_
        refine tt_stat (j := 4) (i := (i + 2)) rfl hs (by omega) ?_
        show tt Zi 12 0 (813, [some (.inr (.inl 1000004)), some (.inr (.inl 0)), some (.inr (.inl 30)), some (.inr (.inl 47)), some (.inl i), some (.inl r318), o6], [.inl ((xs ((i + 2)).toNat)), .inl ((xs ((i + 1)).toNat)), .inr (.inl 30)], n312, D313, s314, p315, c316) _
        refine tt_cl (by omega) rfl (k_learned (Zi := Zi) (D := D313) (s := s314) (p := p315) (c := c316) (by omega) hS314 hC316 ((xs ((i + 1)).toNat)) ((xs ((i + 2)).toNat)) (by omega) (by omega)) ?_
        rintro _ _ ⟨s320, r321, rfl, rfl, hS320, f322, b323⟩
        have hW324 := wp_rf f322 (by decide) hW315
        show tt Zi 12 0 (816, [some (.inr (.inl 1000004)), some (.inr (.inl 0)), some (.inr (.inl 30)), some (.inr (.inl 47)), some (.inl i), some (.inl r318), o6], [.inl r321], n312, D313, s320, p315, c316) _
        have te100 : s320 100 = (s314 100) := f322 100 (by decide)
        have te101 : s320 101 = (s314 101) := f322 101 (by decide)
        have te102 : s320 102 = (s314 102) := f322 102 (by decide)
        have te103 : s320 103 = (s314 103) := f322 103 (by decide)
        have te3001 : s320 3001 = (s314 3001) := f322 3001 (by decide)
        have te3002 : s320 3002 = (s314 3002) := f322 3002 (by decide)
        have te3003 : s320 3003 = (s314 3003) := f322 3003 (by decide)
        have te3004 : s320 3004 = (s314 3004) := f322 3004 (by decide)
        have ht2 : tie s320 := ⟨te100.trans (tc100.trans (ht.1.trans (tc3001.symm.trans te3001.symm))), te101.trans (tc101.trans (ht.2.1.trans (tc3002.symm.trans te3002.symm))), te102.trans (tc102.trans (ht.2.2.1.trans (tc3003.symm.trans te3003.symm))), te103.trans (tc103.trans (ht.2.2.2.trans (tc3004.symm.trans te3004.symm)))⟩
        have FKr := fk_rf (c := c316) (K := []) FKc.1
        have tS2 : tiS s320 p315 c316 := tiS_fk (tiS_fk ⟨E, hcE, hrE⟩ FKc (by decide) tc100 tc101 tc102) FKr (by decide) te100 te101 te102
        clear tc100 tc101 tc102 tc103 tc3001 tc3002 tc3003 tc3004 te100 te101 te102 te103 te3001 te3002 te3003 te3004
        refine tt_k 4 (S' := (23, [some (.inr (.inl 1000004)), some (.inr (.inl 0)), some (.inr (.inl 30)), some (.inr (.inl 47)), some (.inl (i + 9)), some (.inl r318), some (.inl r321)], [], n312, D313, s320, p315, c316)) rfl ?_
        exact ih (q + 1) (i + 9) (some (.inl r318)) (some (.inl r321)) (n312, D313, s320, p315, c316) ⟨hS320, hC316, (wp_rg hW324), FKr.1⟩ ht2 tS2 (by omega) (by omega) (by omega) (by omega)
      refine tt_tsd (x := (mi_and (xs (i).toNat) 15)) rfl (by omega) (by omega) rfl ?_
      show tt Zi 12 0 (821, [some (.inr (.inl 1000004)), some (.inr (.inl 0)), some (.inr (.inl 30)), some (.inr (.inl 47)), some (.inl i), o5, o6], [], n, D, s, p, c) _
      refine tt_k 2 (S' := (23, [some (.inr (.inl 1000004)), some (.inr (.inl 0)), some (.inr (.inl 30)), some (.inr (.inl 47)), some (.inl (i + 9)), o5, o6], [], n, D, s, p, c)) rfl ?_
      exact ih q (i + 9) (o5) (o6) (n, D, s, p, c) ⟨hS, hC, (wp_rg hW), hD⟩ ht ⟨E, hcE, hrE⟩ (by omega) (by omega) (by omega) (by omega)
