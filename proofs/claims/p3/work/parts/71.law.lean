/-! the law's loop -/
def tie (s : Nat → Int) : Prop := s 100 = s 3001 ∧ s 101 = s 3002 ∧ s 102 = s 3003 ∧ s 103 = s 3004
def lawQ : mi_Rs → mi_H → Prop := fun R H => R = .inl (some (.inl 1)) ∧ ∃ g, cW 520 g H
set_option maxRecDepth 100000 in
set_option maxHeartbeats 8000000 in
theorem law_L {Zi : Nat → Option (Nat × (Nat → Int))} {L : Nat} {xs : Nat → Int} (hz : zk Zi) (hs : Zi 4 = some (L, xs)) (hxs : ∀ i, -2147483648 ≤ xs i ∧ xs i ≤ 2147483647) (hL : L ≤ 4608) : ∀ (m q : Nat) (i : Int) (o5 o6 : Option mi_V) (H : mi_H), cW q H.2.2.1 H → tie H.2.2.1 → 0 ≤ i → 9 * (q : Int) ≤ i → i ≤ 4617 → (4700 - i).toNat < m → tt Zi 12 0 (23, [some (.inr (.inl 1000004)), some (.inr (.inl 0)), some (.inr (.inl 30)), some (.inr (.inl 47)), some (.inl i), o5, o6], [], H) lawQ := by
  intro m
  induction m with
  | zero => intro q i o5 o6 H _ _ _ _ _ h; exact absurd h (by omega)
  | succ m ih =>
    intro q i o5 o6 H hH ht hi0 hq hi1 hm
    obtain ⟨n, D, s, p, c⟩ := H
    have hS : bS s := hH.1
    have hC : bC D c := hH.2.1
    have hW : wp q s n D p s := hH.2.2
    have ht : tie s := ht
    unfold tie at ht
    have hd : 12 ≤ 12 := Nat.le_refl 12
    refine tt_k 2 (S' := (26, [some (.inr (.inl 1000004)), some (.inr (.inl 0)), some (.inr (.inl 30)), some (.inr (.inl 47)), some (.inl i), o5, o6], [.inr (.inl 1000004), .inl i], n, D, s, p, c)) rfl ?_
    refine tt_lno (j := 4) rfl hs ?_
    show tt Zi 12 0 (27, [some (.inr (.inl 1000004)), some (.inr (.inl 0)), some (.inr (.inl 30)), some (.inr (.inl 47)), some (.inl i), o5, o6], [.inl (L : Int), .inl i], n, D, s, p, c) _
    refine tt_k 2 (S' := (30, [some (.inr (.inl 1000004)), some (.inr (.inl 0)), some (.inr (.inl 30)), some (.inr (.inl 47)), some (.inl i), o5, o6], [.inl ((L : Int) - 9), .inl i], n, D, s, p, c)) rfl ?_
    refine tb_gt (x := i) (y := ((L : Int) - 9)) rfl rfl (by omega) (fun h1 => ?_) (fun h1 => ?_)
    · show tt Zi 12 0 (810, [some (.inr (.inl 1000004)), some (.inr (.inl 0)), some (.inr (.inl 30)), some (.inr (.inl 47)), some (.inl i), o5, o6], [], n, D, s, p, c) _
      refine tt_k 1 (S' := (811, [some (.inr (.inl 1000004)), some (.inr (.inl 0)), some (.inr (.inl 30)), some (.inr (.inl 47)), some (.inl i), o5, o6], [.inl 1], n, D, s, p, c)) rfl ?_
      exact tt_rtb rfl rfl (by omega) ⟨rfl, _, cW_mono (q := q) ⟨hS, hC, hW⟩ (by omega)⟩
    · show tt Zi 12 0 (33, [some (.inr (.inl 1000004)), some (.inr (.inl 0)), some (.inr (.inl 30)), some (.inr (.inl 47)), some (.inl i), o5, o6], [], n, D, s, p, c) _
      refine tt_k 2 (S' := (36, [some (.inr (.inl 1000004)), some (.inr (.inl 0)), some (.inr (.inl 30)), some (.inr (.inl 47)), some (.inl i), o5, o6], [.inl i, .inr (.inl 1000004)], n, D, s, p, c)) rfl ?_
      refine tt_stat (j := 4) (i := i) rfl hs (by omega) ?_
      show tt Zi 12 0 (37, [some (.inr (.inl 1000004)), some (.inr (.inl 0)), some (.inr (.inl 30)), some (.inr (.inl 47)), some (.inl i), o5, o6], [.inl (xs (i).toNat)], n, D, s, p, c) _
      have b2 := hxs (i).toNat
      refine tt_k 2 (S' := (40, [some (.inr (.inl 1000004)), some (.inr (.inl 0)), some (.inr (.inl 30)), some (.inr (.inl 47)), some (.inl i), o5, o6], [.inl ((mi_and (xs (i).toNat) 15))], n, D, s, p, c)) rfl ?_
      have e3 := mi_and15 (xs (i).toNat)
      by_cases h4 : (mi_and (xs (i).toNat) 15) = 0
      · have h5 := h4
        refine tt_tsw (x := (mi_and (xs (i).toNat) 15)) (off := 80) rfl (by omega) (by omega) (by rw [h4]; rfl) rfl ?_
        show tt Zi 12 0 (120, [some (.inr (.inl 1000004)), some (.inr (.inl 0)), some (.inr (.inl 30)), some (.inr (.inl 47)), some (.inl i), o5, o6], [], n, D, s, p, c) _
        refine tt_k 5 (S' := (126, [some (.inr (.inl 1000004)), some (.inr (.inl 0)), some (.inr (.inl 30)), some (.inr (.inl 47)), some (.inl i), o5, o6], [.inl (i + 1), .inr (.inl 1000004), .inr (.inl 0)], n, D, s, p, c)) rfl ?_
        refine tt_stat (j := 4) (i := (i + 1)) rfl hs (by omega) ?_
        show tt Zi 12 0 (127, [some (.inr (.inl 1000004)), some (.inr (.inl 0)), some (.inr (.inl 30)), some (.inr (.inl 47)), some (.inl i), o5, o6], [.inl ((xs ((i + 1)).toNat)), .inr (.inl 0)], n, D, s, p, c) _
        have b6 := hxs ((i + 1)).toNat
        refine tt_k 4 (S' := (132, [some (.inr (.inl 1000004)), some (.inr (.inl 0)), some (.inr (.inl 30)), some (.inr (.inl 47)), some (.inl i), o5, o6], [.inl (i + 2), .inr (.inl 1000004), .inl ((xs ((i + 1)).toNat)), .inr (.inl 0)], n, D, s, p, c)) rfl ?_
        refine tt_stat (j := 4) (i := (i + 2)) rfl hs (by omega) ?_
        show tt Zi 12 0 (133, [some (.inr (.inl 1000004)), some (.inr (.inl 0)), some (.inr (.inl 30)), some (.inr (.inl 47)), some (.inl i), o5, o6], [.inl ((xs ((i + 2)).toNat)), .inl ((xs ((i + 1)).toNat)), .inr (.inl 0)], n, D, s, p, c) _
        have b7 := hxs ((i + 2)).toNat
        refine tt_k 4 (S' := (138, [some (.inr (.inl 1000004)), some (.inr (.inl 0)), some (.inr (.inl 30)), some (.inr (.inl 47)), some (.inl i), o5, o6], [.inl (i + 3), .inr (.inl 1000004), .inl ((xs ((i + 2)).toNat)), .inl ((xs ((i + 1)).toNat)), .inr (.inl 0)], n, D, s, p, c)) rfl ?_
        refine tt_stat (j := 4) (i := (i + 3)) rfl hs (by omega) ?_
        show tt Zi 12 0 (139, [some (.inr (.inl 1000004)), some (.inr (.inl 0)), some (.inr (.inl 30)), some (.inr (.inl 47)), some (.inl i), o5, o6], [.inl ((xs ((i + 3)).toNat)), .inl ((xs ((i + 2)).toNat)), .inl ((xs ((i + 1)).toNat)), .inr (.inl 0)], n, D, s, p, c) _
        have b8 := hxs ((i + 3)).toNat
        refine tt_k 4 (S' := (144, [some (.inr (.inl 1000004)), some (.inr (.inl 0)), some (.inr (.inl 30)), some (.inr (.inl 47)), some (.inl i), o5, o6], [.inl (i + 4), .inr (.inl 1000004), .inl ((xs ((i + 3)).toNat)), .inl ((xs ((i + 2)).toNat)), .inl ((xs ((i + 1)).toNat)), .inr (.inl 0)], n, D, s, p, c)) rfl ?_
        refine tt_stat (j := 4) (i := (i + 4)) rfl hs (by omega) ?_
        show tt Zi 12 0 (145, [some (.inr (.inl 1000004)), some (.inr (.inl 0)), some (.inr (.inl 30)), some (.inr (.inl 47)), some (.inl i), o5, o6], [.inl ((xs ((i + 4)).toNat)), .inl ((xs ((i + 3)).toNat)), .inl ((xs ((i + 2)).toNat)), .inl ((xs ((i + 1)).toNat)), .inr (.inl 0)], n, D, s, p, c) _
        have b9 := hxs ((i + 4)).toNat
        refine tt_cl (by omega) rfl (h_canvas (Zi := Zi) (q := q) (n := n) (D := D) (s := s) (p := p) (c := c) (by omega) hz (by omega) hS hC (wp_rg hW) ((xs ((i + 1)).toNat)) ((xs ((i + 2)).toNat)) ((xs ((i + 3)).toNat)) ((xs ((i + 4)).toNat)) (by omega) (by omega) (by omega) (by omega)) ?_
        rintro _ ⟨n10, D11, s12, p13, c14⟩ ⟨r16, rfl, b17, hY15, k18⟩
        have hS12 : bS s12 := hY15.1
        have hC14 : bC D11 c14 := hY15.2.1
        have hW13 : wp _ _ n10 D11 p13 s12 := hY15.2.2
        show tt Zi 12 0 (148, [some (.inr (.inl 1000004)), some (.inr (.inl 0)), some (.inr (.inl 30)), some (.inr (.inl 47)), some (.inl i), o5, o6], [.inl r16], n10, D11, s12, p13, c14) _
        have tc100 : s12 100 = if r16 = 0 then (xs ((i + 1)).toNat) else (s 100) := gz_if (hW13.gz 100 rfl)
        have tc101 : s12 101 = if r16 = 0 then (xs ((i + 2)).toNat) else (s 101) := gz_if (hW13.gz 101 rfl)
        have tc102 : s12 102 = if r16 = 0 then (xs ((i + 3)).toNat) else (s 102) := gz_if (hW13.gz 102 rfl)
        have tc103 : s12 103 = if r16 = 0 then (xs ((i + 4)).toNat) else (s 103) := gz_if (hW13.gz 103 rfl)
        have tc3001 : s12 3001 = (s 3001) := gz_is (hW13.gz 3001 rfl) rfl
        have tc3002 : s12 3002 = (s 3002) := gz_is (hW13.gz 3002 rfl) rfl
        have tc3003 : s12 3003 = (s 3003) := gz_is (hW13.gz 3003 rfl) rfl
        have tc3004 : s12 3004 = (s 3004) := gz_is (hW13.gz 3004 rfl) rfl
        refine tt_k 6 (S' := (156, [some (.inr (.inl 1000004)), some (.inr (.inl 0)), some (.inr (.inl 30)), some (.inr (.inl 47)), some (.inl i), some (.inl r16), o6], [.inl (i + 1), .inr (.inl 1000004), .inr (.inl 30)], n10, D11, s12, p13, c14)) rfl ?_
        refine tt_stat (j := 4) (i := (i + 1)) rfl hs (by omega) ?_
        show tt Zi 12 0 (157, [some (.inr (.inl 1000004)), some (.inr (.inl 0)), some (.inr (.inl 30)), some (.inr (.inl 47)), some (.inl i), some (.inl r16), o6], [.inl ((xs ((i + 1)).toNat)), .inr (.inl 30)], n10, D11, s12, p13, c14) _
        refine tt_k 4 (S' := (162, [some (.inr (.inl 1000004)), some (.inr (.inl 0)), some (.inr (.inl 30)), some (.inr (.inl 47)), some (.inl i), some (.inl r16), o6], [.inl (i + 2), .inr (.inl 1000004), .inl ((xs ((i + 1)).toNat)), .inr (.inl 30)], n10, D11, s12, p13, c14)) rfl ?_
        refine tt_stat (j := 4) (i := (i + 2)) rfl hs (by omega) ?_
        show tt Zi 12 0 (163, [some (.inr (.inl 1000004)), some (.inr (.inl 0)), some (.inr (.inl 30)), some (.inr (.inl 47)), some (.inl i), some (.inl r16), o6], [.inl ((xs ((i + 2)).toNat)), .inl ((xs ((i + 1)).toNat)), .inr (.inl 30)], n10, D11, s12, p13, c14) _
        refine tt_k 4 (S' := (168, [some (.inr (.inl 1000004)), some (.inr (.inl 0)), some (.inr (.inl 30)), some (.inr (.inl 47)), some (.inl i), some (.inl r16), o6], [.inl (i + 3), .inr (.inl 1000004), .inl ((xs ((i + 2)).toNat)), .inl ((xs ((i + 1)).toNat)), .inr (.inl 30)], n10, D11, s12, p13, c14)) rfl ?_
        refine tt_stat (j := 4) (i := (i + 3)) rfl hs (by omega) ?_
        show tt Zi 12 0 (169, [some (.inr (.inl 1000004)), some (.inr (.inl 0)), some (.inr (.inl 30)), some (.inr (.inl 47)), some (.inl i), some (.inl r16), o6], [.inl ((xs ((i + 3)).toNat)), .inl ((xs ((i + 2)).toNat)), .inl ((xs ((i + 1)).toNat)), .inr (.inl 30)], n10, D11, s12, p13, c14) _
        refine tt_k 4 (S' := (174, [some (.inr (.inl 1000004)), some (.inr (.inl 0)), some (.inr (.inl 30)), some (.inr (.inl 47)), some (.inl i), some (.inl r16), o6], [.inl (i + 4), .inr (.inl 1000004), .inl ((xs ((i + 3)).toNat)), .inl ((xs ((i + 2)).toNat)), .inl ((xs ((i + 1)).toNat)), .inr (.inl 30)], n10, D11, s12, p13, c14)) rfl ?_
        refine tt_stat (j := 4) (i := (i + 4)) rfl hs (by omega) ?_
        show tt Zi 12 0 (175, [some (.inr (.inl 1000004)), some (.inr (.inl 0)), some (.inr (.inl 30)), some (.inr (.inl 47)), some (.inl i), some (.inl r16), o6], [.inl ((xs ((i + 4)).toNat)), .inl ((xs ((i + 3)).toNat)), .inl ((xs ((i + 2)).toNat)), .inl ((xs ((i + 1)).toNat)), .inr (.inl 30)], n10, D11, s12, p13, c14) _
        refine tt_cl (by omega) rfl (k_canvas2 (Zi := Zi) (D := D11) (s := s12) (p := p13) (c := c14) (by omega) hS12 hC14 ((xs ((i + 1)).toNat)) ((xs ((i + 2)).toNat)) ((xs ((i + 3)).toNat)) ((xs ((i + 4)).toNat)) (by omega) (by omega) (by omega) (by omega)) ?_
        rintro _ _ ⟨s19, c20, rfl, rfl, hS19, hC20, f21, g22, k23, k24, k25, k26, k27⟩
        have hW28 := wp_rf f21 (by decide) hW13
        show tt Zi 12 0 (178, [some (.inr (.inl 1000004)), some (.inr (.inl 0)), some (.inr (.inl 30)), some (.inr (.inl 47)), some (.inl i), some (.inl r16), o6], [], n10, D11, s19, p13, c20) _
        have te100 : s19 100 = (s12 100) := f21 100 (by decide)
        have te101 : s19 101 = (s12 101) := f21 101 (by decide)
        have te102 : s19 102 = (s12 102) := f21 102 (by decide)
        have te103 : s19 103 = (s12 103) := f21 103 (by decide)
        have ht2 : tie s19 := by
          by_cases hc : (1 ≤ (xs ((i + 1)).toNat) ∧ (xs ((i + 1)).toNat) ≤ 64) ∧ (1 ≤ (xs ((i + 2)).toNat) ∧ (xs ((i + 2)).toNat) ≤ 64) ∧ ((xs ((i + 3)).toNat) = 1 ∨ (xs ((i + 3)).toNat) = 3) ∧ (2 ≤ (xs ((i + 4)).toNat) ∧ (xs ((i + 4)).toNat) ≤ 16)
          · rcases k18 with ⟨er, _⟩ | ⟨er, hn⟩
            · rw [if_pos hc] at k24 k25 k26 k27
              rw [if_pos er] at tc100 tc101 tc102 tc103
              exact ⟨te100.trans (tc100.trans k24.symm), te101.trans (tc101.trans k25.symm), te102.trans (tc102.trans k26.symm), te103.trans (tc103.trans k27.symm)⟩
            · exact absurd hc hn
          · rcases k18 with ⟨er, hn⟩ | ⟨er, _⟩
            · exact absurd hn hc
            · have er2 : ¬ r16 = 0 := by rw [er]; decide
              rw [if_neg hc] at k24 k25 k26 k27
              rw [if_neg er2] at tc100 tc101 tc102 tc103
              exact ⟨te100.trans (tc100.trans (ht.1.trans (tc3001.symm.trans k24.symm))), te101.trans (tc101.trans (ht.2.1.trans (tc3002.symm.trans k25.symm))), te102.trans (tc102.trans (ht.2.2.1.trans (tc3003.symm.trans k26.symm))), te103.trans (tc103.trans (ht.2.2.2.trans (tc3004.symm.trans k27.symm)))⟩
        clear k24 k25 k26 k27 tc100 tc101 tc102 tc103 tc3001 tc3002 tc3003 tc3004 te100 te101 te102 te103
        refine tt_k 3 (S' := (23, [some (.inr (.inl 1000004)), some (.inr (.inl 0)), some (.inr (.inl 30)), some (.inr (.inl 47)), some (.inl (i + 9)), some (.inl r16), o6], [], n10, D11, s19, p13, c20)) rfl ?_
        exact ih (q + 1) (i + 9) (some (.inl r16)) (o6) (n10, D11, s19, p13, c20) ⟨hS19, hC20, (wp_rg hW28)⟩ ht2 (by omega) (by omega) (by omega) (by omega)
      by_cases h29 : (mi_and (xs (i).toNat) 15) = 1
      · have h30 := h29
        refine tt_tsw (x := (mi_and (xs (i).toNat) 15)) (off := 141) rfl (by omega) (by omega) (by rw [h29]; rfl) rfl ?_
        show tt Zi 12 0 (181, [some (.inr (.inl 1000004)), some (.inr (.inl 0)), some (.inr (.inl 30)), some (.inr (.inl 47)), some (.inl i), o5, o6], [], n, D, s, p, c) _
        refine tt_k 5 (S' := (187, [some (.inr (.inl 1000004)), some (.inr (.inl 0)), some (.inr (.inl 30)), some (.inr (.inl 47)), some (.inl i), o5, o6], [.inl (i + 1), .inr (.inl 1000004), .inr (.inl 0)], n, D, s, p, c)) rfl ?_
        refine tt_stat (j := 4) (i := (i + 1)) rfl hs (by omega) ?_
        show tt Zi 12 0 (188, [some (.inr (.inl 1000004)), some (.inr (.inl 0)), some (.inr (.inl 30)), some (.inr (.inl 47)), some (.inl i), o5, o6], [.inl ((xs ((i + 1)).toNat)), .inr (.inl 0)], n, D, s, p, c) _
        have b31 := hxs ((i + 1)).toNat
        refine tt_k 4 (S' := (193, [some (.inr (.inl 1000004)), some (.inr (.inl 0)), some (.inr (.inl 30)), some (.inr (.inl 47)), some (.inl i), o5, o6], [.inl (i + 2), .inr (.inl 1000004), .inl ((xs ((i + 1)).toNat)), .inr (.inl 0)], n, D, s, p, c)) rfl ?_
        refine tt_stat (j := 4) (i := (i + 2)) rfl hs (by omega) ?_
        show tt Zi 12 0 (194, [some (.inr (.inl 1000004)), some (.inr (.inl 0)), some (.inr (.inl 30)), some (.inr (.inl 47)), some (.inl i), o5, o6], [.inl ((xs ((i + 2)).toNat)), .inl ((xs ((i + 1)).toNat)), .inr (.inl 0)], n, D, s, p, c) _
        have b32 := hxs ((i + 2)).toNat
        refine tt_k 4 (S' := (199, [some (.inr (.inl 1000004)), some (.inr (.inl 0)), some (.inr (.inl 30)), some (.inr (.inl 47)), some (.inl i), o5, o6], [.inl (i + 3), .inr (.inl 1000004), .inl ((xs ((i + 2)).toNat)), .inl ((xs ((i + 1)).toNat)), .inr (.inl 0)], n, D, s, p, c)) rfl ?_
        refine tt_stat (j := 4) (i := (i + 3)) rfl hs (by omega) ?_
        show tt Zi 12 0 (200, [some (.inr (.inl 1000004)), some (.inr (.inl 0)), some (.inr (.inl 30)), some (.inr (.inl 47)), some (.inl i), o5, o6], [.inl ((xs ((i + 3)).toNat)), .inl ((xs ((i + 2)).toNat)), .inl ((xs ((i + 1)).toNat)), .inr (.inl 0)], n, D, s, p, c) _
        have b33 := hxs ((i + 3)).toNat
        refine tt_k 4 (S' := (205, [some (.inr (.inl 1000004)), some (.inr (.inl 0)), some (.inr (.inl 30)), some (.inr (.inl 47)), some (.inl i), o5, o6], [.inl (i + 4), .inr (.inl 1000004), .inl ((xs ((i + 3)).toNat)), .inl ((xs ((i + 2)).toNat)), .inl ((xs ((i + 1)).toNat)), .inr (.inl 0)], n, D, s, p, c)) rfl ?_
        refine tt_stat (j := 4) (i := (i + 4)) rfl hs (by omega) ?_
        show tt Zi 12 0 (206, [some (.inr (.inl 1000004)), some (.inr (.inl 0)), some (.inr (.inl 30)), some (.inr (.inl 47)), some (.inl i), o5, o6], [.inl ((xs ((i + 4)).toNat)), .inl ((xs ((i + 3)).toNat)), .inl ((xs ((i + 2)).toNat)), .inl ((xs ((i + 1)).toNat)), .inr (.inl 0)], n, D, s, p, c) _
        have b34 := hxs ((i + 4)).toNat
        refine tt_k 4 (S' := (211, [some (.inr (.inl 1000004)), some (.inr (.inl 0)), some (.inr (.inl 30)), some (.inr (.inl 47)), some (.inl i), o5, o6], [.inl (i + 5), .inr (.inl 1000004), .inl ((xs ((i + 4)).toNat)), .inl ((xs ((i + 3)).toNat)), .inl ((xs ((i + 2)).toNat)), .inl ((xs ((i + 1)).toNat)), .inr (.inl 0)], n, D, s, p, c)) rfl ?_
        refine tt_stat (j := 4) (i := (i + 5)) rfl hs (by omega) ?_
        show tt Zi 12 0 (212, [some (.inr (.inl 1000004)), some (.inr (.inl 0)), some (.inr (.inl 30)), some (.inr (.inl 47)), some (.inl i), o5, o6], [.inl ((xs ((i + 5)).toNat)), .inl ((xs ((i + 4)).toNat)), .inl ((xs ((i + 3)).toNat)), .inl ((xs ((i + 2)).toNat)), .inl ((xs ((i + 1)).toNat)), .inr (.inl 0)], n, D, s, p, c) _
        have b35 := hxs ((i + 5)).toNat
        refine tt_k 4 (S' := (218, [some (.inr (.inl 1000004)), some (.inr (.inl 0)), some (.inr (.inl 30)), some (.inr (.inl 47)), some (.inl i), o5, o6], [.inl (i + 6), .inr (.inl 1000004), .inl ((xs ((i + 5)).toNat)), .inl ((xs ((i + 4)).toNat)), .inl ((xs ((i + 3)).toNat)), .inl ((xs ((i + 2)).toNat)), .inl ((xs ((i + 1)).toNat)), .inr (.inl 0)], n, D, s, p, c)) rfl ?_
        refine tt_stat (j := 4) (i := (i + 6)) rfl hs (by omega) ?_
        show tt Zi 12 0 (219, [some (.inr (.inl 1000004)), some (.inr (.inl 0)), some (.inr (.inl 30)), some (.inr (.inl 47)), some (.inl i), o5, o6], [.inl ((xs ((i + 6)).toNat)), .inl ((xs ((i + 5)).toNat)), .inl ((xs ((i + 4)).toNat)), .inl ((xs ((i + 3)).toNat)), .inl ((xs ((i + 2)).toNat)), .inl ((xs ((i + 1)).toNat)), .inr (.inl 0)], n, D, s, p, c) _
        have b36 := hxs ((i + 6)).toNat
        refine tt_k 4 (S' := (225, [some (.inr (.inl 1000004)), some (.inr (.inl 0)), some (.inr (.inl 30)), some (.inr (.inl 47)), some (.inl i), o5, o6], [.inl (i + 7), .inr (.inl 1000004), .inl ((xs ((i + 6)).toNat)), .inl ((xs ((i + 5)).toNat)), .inl ((xs ((i + 4)).toNat)), .inl ((xs ((i + 3)).toNat)), .inl ((xs ((i + 2)).toNat)), .inl ((xs ((i + 1)).toNat)), .inr (.inl 0)], n, D, s, p, c)) rfl ?_
        refine tt_stat (j := 4) (i := (i + 7)) rfl hs (by omega) ?_
        show tt Zi 12 0 (226, [some (.inr (.inl 1000004)), some (.inr (.inl 0)), some (.inr (.inl 30)), some (.inr (.inl 47)), some (.inl i), o5, o6], [.inl ((xs ((i + 7)).toNat)), .inl ((xs ((i + 6)).toNat)), .inl ((xs ((i + 5)).toNat)), .inl ((xs ((i + 4)).toNat)), .inl ((xs ((i + 3)).toNat)), .inl ((xs ((i + 2)).toNat)), .inl ((xs ((i + 1)).toNat)), .inr (.inl 0)], n, D, s, p, c) _
        have b37 := hxs ((i + 7)).toNat
        refine tt_k 4 (S' := (232, [some (.inr (.inl 1000004)), some (.inr (.inl 0)), some (.inr (.inl 30)), some (.inr (.inl 47)), some (.inl i), o5, o6], [.inl (i + 8), .inr (.inl 1000004), .inl ((xs ((i + 7)).toNat)), .inl ((xs ((i + 6)).toNat)), .inl ((xs ((i + 5)).toNat)), .inl ((xs ((i + 4)).toNat)), .inl ((xs ((i + 3)).toNat)), .inl ((xs ((i + 2)).toNat)), .inl ((xs ((i + 1)).toNat)), .inr (.inl 0)], n, D, s, p, c)) rfl ?_
        refine tt_stat (j := 4) (i := (i + 8)) rfl hs (by omega) ?_
        show tt Zi 12 0 (233, [some (.inr (.inl 1000004)), some (.inr (.inl 0)), some (.inr (.inl 30)), some (.inr (.inl 47)), some (.inl i), o5, o6], [.inl ((xs ((i + 8)).toNat)), .inl ((xs ((i + 7)).toNat)), .inl ((xs ((i + 6)).toNat)), .inl ((xs ((i + 5)).toNat)), .inl ((xs ((i + 4)).toNat)), .inl ((xs ((i + 3)).toNat)), .inl ((xs ((i + 2)).toNat)), .inl ((xs ((i + 1)).toNat)), .inr (.inl 0)], n, D, s, p, c) _
        have b38 := hxs ((i + 8)).toNat
        refine tt_cl (by omega) rfl (h_draw (Zi := Zi) (q := q) (n := n) (D := D) (s := s) (p := p) (c := c) (by omega) hz (by omega) hS hC (wp_rg hW) ((xs ((i + 1)).toNat)) ((xs ((i + 2)).toNat)) ((xs ((i + 3)).toNat)) ((xs ((i + 4)).toNat)) ((xs ((i + 5)).toNat)) ((xs ((i + 6)).toNat)) ((xs ((i + 7)).toNat)) ((xs ((i + 8)).toNat)) (by omega) (by omega) (by omega) (by omega) (by omega) (by omega) (by omega) (by omega)) ?_
        rintro _ ⟨n39, D40, s41, p42, c43⟩ ⟨r45, rfl, b46, hY44, k47⟩
        have hS41 : bS s41 := hY44.1
        have hC43 : bC D40 c43 := hY44.2.1
        have hW42 : wp _ _ n39 D40 p42 s41 := hY44.2.2
        show tt Zi 12 0 (236, [some (.inr (.inl 1000004)), some (.inr (.inl 0)), some (.inr (.inl 30)), some (.inr (.inl 47)), some (.inl i), o5, o6], [.inl r45], n39, D40, s41, p42, c43) _
        have tc100 : s41 100 = (s 100) := hW42.gz 100 rfl
        have tc101 : s41 101 = (s 101) := hW42.gz 101 rfl
        have tc102 : s41 102 = (s 102) := hW42.gz 102 rfl
        have tc103 : s41 103 = (s 103) := hW42.gz 103 rfl
        have tc3001 : s41 3001 = (s 3001) := hW42.gz 3001 rfl
        have tc3002 : s41 3002 = (s 3002) := hW42.gz 3002 rfl
        have tc3003 : s41 3003 = (s 3003) := hW42.gz 3003 rfl
        have tc3004 : s41 3004 = (s 3004) := hW42.gz 3004 rfl
        refine tt_k 6 (S' := (244, [some (.inr (.inl 1000004)), some (.inr (.inl 0)), some (.inr (.inl 30)), some (.inr (.inl 47)), some (.inl i), some (.inl r45), o6], [.inl (i + 1), .inr (.inl 1000004), .inr (.inl 30)], n39, D40, s41, p42, c43)) rfl ?_
        refine tt_stat (j := 4) (i := (i + 1)) rfl hs (by omega) ?_
        show tt Zi 12 0 (245, [some (.inr (.inl 1000004)), some (.inr (.inl 0)), some (.inr (.inl 30)), some (.inr (.inl 47)), some (.inl i), some (.inl r45), o6], [.inl ((xs ((i + 1)).toNat)), .inr (.inl 30)], n39, D40, s41, p42, c43) _
        refine tt_k 4 (S' := (250, [some (.inr (.inl 1000004)), some (.inr (.inl 0)), some (.inr (.inl 30)), some (.inr (.inl 47)), some (.inl i), some (.inl r45), o6], [.inl (i + 2), .inr (.inl 1000004), .inl ((xs ((i + 1)).toNat)), .inr (.inl 30)], n39, D40, s41, p42, c43)) rfl ?_
        refine tt_stat (j := 4) (i := (i + 2)) rfl hs (by omega) ?_
        show tt Zi 12 0 (251, [some (.inr (.inl 1000004)), some (.inr (.inl 0)), some (.inr (.inl 30)), some (.inr (.inl 47)), some (.inl i), some (.inl r45), o6], [.inl ((xs ((i + 2)).toNat)), .inl ((xs ((i + 1)).toNat)), .inr (.inl 30)], n39, D40, s41, p42, c43) _
        refine tt_k 4 (S' := (256, [some (.inr (.inl 1000004)), some (.inr (.inl 0)), some (.inr (.inl 30)), some (.inr (.inl 47)), some (.inl i), some (.inl r45), o6], [.inl (i + 3), .inr (.inl 1000004), .inl ((xs ((i + 2)).toNat)), .inl ((xs ((i + 1)).toNat)), .inr (.inl 30)], n39, D40, s41, p42, c43)) rfl ?_
        refine tt_stat (j := 4) (i := (i + 3)) rfl hs (by omega) ?_
        show tt Zi 12 0 (257, [some (.inr (.inl 1000004)), some (.inr (.inl 0)), some (.inr (.inl 30)), some (.inr (.inl 47)), some (.inl i), some (.inl r45), o6], [.inl ((xs ((i + 3)).toNat)), .inl ((xs ((i + 2)).toNat)), .inl ((xs ((i + 1)).toNat)), .inr (.inl 30)], n39, D40, s41, p42, c43) _
        refine tt_k 4 (S' := (262, [some (.inr (.inl 1000004)), some (.inr (.inl 0)), some (.inr (.inl 30)), some (.inr (.inl 47)), some (.inl i), some (.inl r45), o6], [.inl (i + 4), .inr (.inl 1000004), .inl ((xs ((i + 3)).toNat)), .inl ((xs ((i + 2)).toNat)), .inl ((xs ((i + 1)).toNat)), .inr (.inl 30)], n39, D40, s41, p42, c43)) rfl ?_
        refine tt_stat (j := 4) (i := (i + 4)) rfl hs (by omega) ?_
        show tt Zi 12 0 (263, [some (.inr (.inl 1000004)), some (.inr (.inl 0)), some (.inr (.inl 30)), some (.inr (.inl 47)), some (.inl i), some (.inl r45), o6], [.inl ((xs ((i + 4)).toNat)), .inl ((xs ((i + 3)).toNat)), .inl ((xs ((i + 2)).toNat)), .inl ((xs ((i + 1)).toNat)), .inr (.inl 30)], n39, D40, s41, p42, c43) _
        refine tt_k 4 (S' := (268, [some (.inr (.inl 1000004)), some (.inr (.inl 0)), some (.inr (.inl 30)), some (.inr (.inl 47)), some (.inl i), some (.inl r45), o6], [.inl (i + 5), .inr (.inl 1000004), .inl ((xs ((i + 4)).toNat)), .inl ((xs ((i + 3)).toNat)), .inl ((xs ((i + 2)).toNat)), .inl ((xs ((i + 1)).toNat)), .inr (.inl 30)], n39, D40, s41, p42, c43)) rfl ?_
        refine tt_stat (j := 4) (i := (i + 5)) rfl hs (by omega) ?_
        show tt Zi 12 0 (269, [some (.inr (.inl 1000004)), some (.inr (.inl 0)), some (.inr (.inl 30)), some (.inr (.inl 47)), some (.inl i), some (.inl r45), o6], [.inl ((xs ((i + 5)).toNat)), .inl ((xs ((i + 4)).toNat)), .inl ((xs ((i + 3)).toNat)), .inl ((xs ((i + 2)).toNat)), .inl ((xs ((i + 1)).toNat)), .inr (.inl 30)], n39, D40, s41, p42, c43) _
        refine tt_k 4 (S' := (275, [some (.inr (.inl 1000004)), some (.inr (.inl 0)), some (.inr (.inl 30)), some (.inr (.inl 47)), some (.inl i), some (.inl r45), o6], [.inl (i + 6), .inr (.inl 1000004), .inl ((xs ((i + 5)).toNat)), .inl ((xs ((i + 4)).toNat)), .inl ((xs ((i + 3)).toNat)), .inl ((xs ((i + 2)).toNat)), .inl ((xs ((i + 1)).toNat)), .inr (.inl 30)], n39, D40, s41, p42, c43)) rfl ?_
        refine tt_stat (j := 4) (i := (i + 6)) rfl hs (by omega) ?_
        show tt Zi 12 0 (276, [some (.inr (.inl 1000004)), some (.inr (.inl 0)), some (.inr (.inl 30)), some (.inr (.inl 47)), some (.inl i), some (.inl r45), o6], [.inl ((xs ((i + 6)).toNat)), .inl ((xs ((i + 5)).toNat)), .inl ((xs ((i + 4)).toNat)), .inl ((xs ((i + 3)).toNat)), .inl ((xs ((i + 2)).toNat)), .inl ((xs ((i + 1)).toNat)), .inr (.inl 30)], n39, D40, s41, p42, c43) _
        refine tt_k 4 (S' := (282, [some (.inr (.inl 1000004)), some (.inr (.inl 0)), some (.inr (.inl 30)), some (.inr (.inl 47)), some (.inl i), some (.inl r45), o6], [.inl (i + 7), .inr (.inl 1000004), .inl ((xs ((i + 6)).toNat)), .inl ((xs ((i + 5)).toNat)), .inl ((xs ((i + 4)).toNat)), .inl ((xs ((i + 3)).toNat)), .inl ((xs ((i + 2)).toNat)), .inl ((xs ((i + 1)).toNat)), .inr (.inl 30)], n39, D40, s41, p42, c43)) rfl ?_
        refine tt_stat (j := 4) (i := (i + 7)) rfl hs (by omega) ?_
        show tt Zi 12 0 (283, [some (.inr (.inl 1000004)), some (.inr (.inl 0)), some (.inr (.inl 30)), some (.inr (.inl 47)), some (.inl i), some (.inl r45), o6], [.inl ((xs ((i + 7)).toNat)), .inl ((xs ((i + 6)).toNat)), .inl ((xs ((i + 5)).toNat)), .inl ((xs ((i + 4)).toNat)), .inl ((xs ((i + 3)).toNat)), .inl ((xs ((i + 2)).toNat)), .inl ((xs ((i + 1)).toNat)), .inr (.inl 30)], n39, D40, s41, p42, c43) _
        refine tt_k 4 (S' := (289, [some (.inr (.inl 1000004)), some (.inr (.inl 0)), some (.inr (.inl 30)), some (.inr (.inl 47)), some (.inl i), some (.inl r45), o6], [.inl (i + 8), .inr (.inl 1000004), .inl ((xs ((i + 7)).toNat)), .inl ((xs ((i + 6)).toNat)), .inl ((xs ((i + 5)).toNat)), .inl ((xs ((i + 4)).toNat)), .inl ((xs ((i + 3)).toNat)), .inl ((xs ((i + 2)).toNat)), .inl ((xs ((i + 1)).toNat)), .inr (.inl 30)], n39, D40, s41, p42, c43)) rfl ?_
        refine tt_stat (j := 4) (i := (i + 8)) rfl hs (by omega) ?_
        show tt Zi 12 0 (290, [some (.inr (.inl 1000004)), some (.inr (.inl 0)), some (.inr (.inl 30)), some (.inr (.inl 47)), some (.inl i), some (.inl r45), o6], [.inl ((xs ((i + 8)).toNat)), .inl ((xs ((i + 7)).toNat)), .inl ((xs ((i + 6)).toNat)), .inl ((xs ((i + 5)).toNat)), .inl ((xs ((i + 4)).toNat)), .inl ((xs ((i + 3)).toNat)), .inl ((xs ((i + 2)).toNat)), .inl ((xs ((i + 1)).toNat)), .inr (.inl 30)], n39, D40, s41, p42, c43) _
        refine tt_cl (by omega) rfl (k_draw (Zi := Zi) (D := D40) (s := s41) (p := p42) (c := c43) (by omega) hS41 hC43 ((xs ((i + 1)).toNat)) ((xs ((i + 2)).toNat)) ((xs ((i + 3)).toNat)) ((xs ((i + 4)).toNat)) ((xs ((i + 5)).toNat)) ((xs ((i + 6)).toNat)) ((xs ((i + 7)).toNat)) ((xs ((i + 8)).toNat)) (by omega) (by omega) (by omega) (by omega) (by omega) (by omega) (by omega) (by omega)) ?_
        rintro _ _ ⟨s48, c49, rfl, rfl, hS48, hC49, f50, g51, k52⟩
        have hW53 := wp_rf f50 (by decide) hW42
        show tt Zi 12 0 (293, [some (.inr (.inl 1000004)), some (.inr (.inl 0)), some (.inr (.inl 30)), some (.inr (.inl 47)), some (.inl i), some (.inl r45), o6], [], n39, D40, s48, p42, c49) _
        have te100 : s48 100 = (s41 100) := f50 100 (by decide)
        have te101 : s48 101 = (s41 101) := f50 101 (by decide)
        have te102 : s48 102 = (s41 102) := f50 102 (by decide)
        have te103 : s48 103 = (s41 103) := f50 103 (by decide)
        have te3001 : s48 3001 = (s41 3001) := f50 3001 (by decide)
        have te3002 : s48 3002 = (s41 3002) := f50 3002 (by decide)
        have te3003 : s48 3003 = (s41 3003) := f50 3003 (by decide)
        have te3004 : s48 3004 = (s41 3004) := f50 3004 (by decide)
        have ht2 : tie s48 := ⟨te100.trans (tc100.trans (ht.1.trans (tc3001.symm.trans te3001.symm))), te101.trans (tc101.trans (ht.2.1.trans (tc3002.symm.trans te3002.symm))), te102.trans (tc102.trans (ht.2.2.1.trans (tc3003.symm.trans te3003.symm))), te103.trans (tc103.trans (ht.2.2.2.trans (tc3004.symm.trans te3004.symm)))⟩
        refine tt_k 1 (S' := (294, [some (.inr (.inl 1000004)), some (.inr (.inl 0)), some (.inr (.inl 30)), some (.inr (.inl 47)), some (.inl i), some (.inl r45), o6], [.inr (.inl 30)], n39, D40, s48, p42, c49)) rfl ?_
        refine tt_cl (by omega) rfl (k_thrown (Zi := Zi) (D := D40) (s := s48) (p := p42) (c := c49) (by omega) hS48 hC49 ) ?_
        rintro _ _ ⟨r54, rfl, rfl, b55, k56⟩
        show tt Zi 12 0 (297, [some (.inr (.inl 1000004)), some (.inr (.inl 0)), some (.inr (.inl 30)), some (.inr (.inl 47)), some (.inl i), some (.inl r45), o6], [.inl r54], n39, D40, s48, p42, c49) _
        refine tt_k 1 (S' := (299, [some (.inr (.inl 1000004)), some (.inr (.inl 0)), some (.inr (.inl 30)), some (.inr (.inl 47)), some (.inl i), some (.inl r45), o6], [.inl r45, .inl r54], n39, D40, s48, p42, c49)) rfl ?_
        refine tb_eq (x := r54) (y := r45) rfl rfl (by omega) (fun h57 => ?_) (fun h57 => ?_)
        · show tt Zi 12 0 (304, [some (.inr (.inl 1000004)), some (.inr (.inl 0)), some (.inr (.inl 30)), some (.inr (.inl 47)), some (.inl i), some (.inl r45), o6], [], n39, D40, s48, p42, c49) _
          refine tt_k 3 (S' := (23, [some (.inr (.inl 1000004)), some (.inr (.inl 0)), some (.inr (.inl 30)), some (.inr (.inl 47)), some (.inl (i + 9)), some (.inl r45), o6], [], n39, D40, s48, p42, c49)) rfl ?_
          exact ih (q + 1) (i + 9) (some (.inl r45)) (o6) (n39, D40, s48, p42, c49) ⟨hS48, hC49, (wp_rg hW53)⟩ ht2 (by omega) (by omega) (by omega) (by omega)
        · show tt Zi 12 0 (302, [some (.inr (.inl 1000004)), some (.inr (.inl 0)), some (.inr (.inl 30)), some (.inr (.inl 47)), some (.inl i), some (.inl r45), o6], [], n39, D40, s48, p42, c49) _
          refine tt_k 1 (S' := (303, [some (.inr (.inl 1000004)), some (.inr (.inl 0)), some (.inr (.inl 30)), some (.inr (.inl 47)), some (.inl i), some (.inl r45), o6], [.inl 0], n39, D40, s48, p42, c49)) rfl ?_
          exfalso
          have eq3001 : (s41 3001) = (s 100) := by omega
          have eq3002 : (s41 3002) = (s 101) := by omega
          have eq3003 : (s41 3003) = (s 102) := by omega
          have eq3004 : (s41 3004) = (s 103) := by omega
          rw [eq3001, eq3002, eq3003, eq3004] at k52
          rcases k47 with ⟨hr, hk⟩ | ⟨hr, hk, hg⟩ | ⟨hr, hk, hg⟩
          · rw [if_neg hk] at k52; omega
          · rw [if_pos hk, if_neg hg] at k52; omega
          · rw [if_pos hk, if_pos hg] at k52; omega
      by_cases h58 : (mi_and (xs (i).toNat) 15) = 2
      · have h59 := h58
        refine tt_tsw (x := (mi_and (xs (i).toNat) 15)) (off := 267) rfl (by omega) (by omega) (by rw [h58]; rfl) rfl ?_
        show tt Zi 12 0 (307, [some (.inr (.inl 1000004)), some (.inr (.inl 0)), some (.inr (.inl 30)), some (.inr (.inl 47)), some (.inl i), o5, o6], [], n, D, s, p, c) _
        refine tt_k 5 (S' := (313, [some (.inr (.inl 1000004)), some (.inr (.inl 0)), some (.inr (.inl 30)), some (.inr (.inl 47)), some (.inl i), o5, o6], [.inl (i + 1), .inr (.inl 1000004), .inr (.inl 0)], n, D, s, p, c)) rfl ?_
        refine tt_stat (j := 4) (i := (i + 1)) rfl hs (by omega) ?_
        show tt Zi 12 0 (314, [some (.inr (.inl 1000004)), some (.inr (.inl 0)), some (.inr (.inl 30)), some (.inr (.inl 47)), some (.inl i), o5, o6], [.inl ((xs ((i + 1)).toNat)), .inr (.inl 0)], n, D, s, p, c) _
        have b60 := hxs ((i + 1)).toNat
        refine tt_k 4 (S' := (319, [some (.inr (.inl 1000004)), some (.inr (.inl 0)), some (.inr (.inl 30)), some (.inr (.inl 47)), some (.inl i), o5, o6], [.inl (i + 2), .inr (.inl 1000004), .inl ((xs ((i + 1)).toNat)), .inr (.inl 0)], n, D, s, p, c)) rfl ?_
        refine tt_stat (j := 4) (i := (i + 2)) rfl hs (by omega) ?_
        show tt Zi 12 0 (320, [some (.inr (.inl 1000004)), some (.inr (.inl 0)), some (.inr (.inl 30)), some (.inr (.inl 47)), some (.inl i), o5, o6], [.inl ((xs ((i + 2)).toNat)), .inl ((xs ((i + 1)).toNat)), .inr (.inl 0)], n, D, s, p, c) _
        have b61 := hxs ((i + 2)).toNat
        refine tt_k 4 (S' := (325, [some (.inr (.inl 1000004)), some (.inr (.inl 0)), some (.inr (.inl 30)), some (.inr (.inl 47)), some (.inl i), o5, o6], [.inl (i + 3), .inr (.inl 1000004), .inl ((xs ((i + 2)).toNat)), .inl ((xs ((i + 1)).toNat)), .inr (.inl 0)], n, D, s, p, c)) rfl ?_
        refine tt_stat (j := 4) (i := (i + 3)) rfl hs (by omega) ?_
        show tt Zi 12 0 (326, [some (.inr (.inl 1000004)), some (.inr (.inl 0)), some (.inr (.inl 30)), some (.inr (.inl 47)), some (.inl i), o5, o6], [.inl ((xs ((i + 3)).toNat)), .inl ((xs ((i + 2)).toNat)), .inl ((xs ((i + 1)).toNat)), .inr (.inl 0)], n, D, s, p, c) _
        have b62 := hxs ((i + 3)).toNat
        refine tt_k 1 (S' := (327, [some (.inr (.inl 1000004)), some (.inr (.inl 0)), some (.inr (.inl 30)), some (.inr (.inl 47)), some (.inl i), o5, o6], [.inr (.inl 47), .inl ((xs ((i + 3)).toNat)), .inl ((xs ((i + 2)).toNat)), .inl ((xs ((i + 1)).toNat)), .inr (.inl 0)], n, D, s, p, c)) rfl ?_
        refine tt_cl (by omega) rfl (h_at (Zi := Zi) (q := q) (n := n) (D := D) (s := s) (p := p) (c := c) (by omega) hz (by omega) hS hC (wp_rg hW) ((xs ((i + 1)).toNat)) ((xs ((i + 2)).toNat)) ((xs ((i + 3)).toNat)) (by omega) (by omega) (by omega)) ?_
        rintro _ ⟨n63, D64, s65, p66, c67⟩ ⟨r69, rfl, b70, hY68⟩
        have hS65 : bS s65 := hY68.1
        have hC67 : bC D64 c67 := hY68.2.1
        have hW66 : wp _ _ n63 D64 p66 s65 := hY68.2.2
        show tt Zi 12 0 (330, [some (.inr (.inl 1000004)), some (.inr (.inl 0)), some (.inr (.inl 30)), some (.inr (.inl 47)), some (.inl i), o5, o6], [.inl r69], n63, D64, s65, p66, c67) _
        have tc100 : s65 100 = (s 100) := hW66.gz 100 rfl
        have tc101 : s65 101 = (s 101) := hW66.gz 101 rfl
        have tc102 : s65 102 = (s 102) := hW66.gz 102 rfl
        have tc103 : s65 103 = (s 103) := hW66.gz 103 rfl
        have tc3001 : s65 3001 = (s 3001) := hW66.gz 3001 rfl
        have tc3002 : s65 3002 = (s 3002) := hW66.gz 3002 rfl
        have tc3003 : s65 3003 = (s 3003) := hW66.gz 3003 rfl
        have tc3004 : s65 3004 = (s 3004) := hW66.gz 3004 rfl
        refine tt_k 6 (S' := (338, [some (.inr (.inl 1000004)), some (.inr (.inl 0)), some (.inr (.inl 30)), some (.inr (.inl 47)), some (.inl i), some (.inl r69), o6], [.inl (i + 1), .inr (.inl 1000004), .inr (.inl 30)], n63, D64, s65, p66, c67)) rfl ?_
        refine tt_stat (j := 4) (i := (i + 1)) rfl hs (by omega) ?_
        show tt Zi 12 0 (339, [some (.inr (.inl 1000004)), some (.inr (.inl 0)), some (.inr (.inl 30)), some (.inr (.inl 47)), some (.inl i), some (.inl r69), o6], [.inl ((xs ((i + 1)).toNat)), .inr (.inl 30)], n63, D64, s65, p66, c67) _
        refine tt_k 4 (S' := (344, [some (.inr (.inl 1000004)), some (.inr (.inl 0)), some (.inr (.inl 30)), some (.inr (.inl 47)), some (.inl i), some (.inl r69), o6], [.inl (i + 2), .inr (.inl 1000004), .inl ((xs ((i + 1)).toNat)), .inr (.inl 30)], n63, D64, s65, p66, c67)) rfl ?_
        refine tt_stat (j := 4) (i := (i + 2)) rfl hs (by omega) ?_
        show tt Zi 12 0 (345, [some (.inr (.inl 1000004)), some (.inr (.inl 0)), some (.inr (.inl 30)), some (.inr (.inl 47)), some (.inl i), some (.inl r69), o6], [.inl ((xs ((i + 2)).toNat)), .inl ((xs ((i + 1)).toNat)), .inr (.inl 30)], n63, D64, s65, p66, c67) _
        refine tt_k 4 (S' := (350, [some (.inr (.inl 1000004)), some (.inr (.inl 0)), some (.inr (.inl 30)), some (.inr (.inl 47)), some (.inl i), some (.inl r69), o6], [.inl (i + 3), .inr (.inl 1000004), .inl ((xs ((i + 2)).toNat)), .inl ((xs ((i + 1)).toNat)), .inr (.inl 30)], n63, D64, s65, p66, c67)) rfl ?_
        refine tt_stat (j := 4) (i := (i + 3)) rfl hs (by omega) ?_
        show tt Zi 12 0 (351, [some (.inr (.inl 1000004)), some (.inr (.inl 0)), some (.inr (.inl 30)), some (.inr (.inl 47)), some (.inl i), some (.inl r69), o6], [.inl ((xs ((i + 3)).toNat)), .inl ((xs ((i + 2)).toNat)), .inl ((xs ((i + 1)).toNat)), .inr (.inl 30)], n63, D64, s65, p66, c67) _
        refine tt_cl (by omega) rfl (k_at (Zi := Zi) (D := D64) (s := s65) (p := p66) (c := c67) (by omega) hS65 hC67 ((xs ((i + 1)).toNat)) ((xs ((i + 2)).toNat)) ((xs ((i + 3)).toNat)) (by omega) (by omega) (by omega)) ?_
        rintro _ _ ⟨s71, r72, rfl, rfl, hS71, f73, b74, k75⟩
        have hW76 := wp_rf f73 (by decide) hW66
        show tt Zi 12 0 (354, [some (.inr (.inl 1000004)), some (.inr (.inl 0)), some (.inr (.inl 30)), some (.inr (.inl 47)), some (.inl i), some (.inl r69), o6], [.inl r72], n63, D64, s71, p66, c67) _
        have te100 : s71 100 = (s65 100) := f73 100 (by decide)
        have te101 : s71 101 = (s65 101) := f73 101 (by decide)
        have te102 : s71 102 = (s65 102) := f73 102 (by decide)
        have te103 : s71 103 = (s65 103) := f73 103 (by decide)
        have te3001 : s71 3001 = (s65 3001) := f73 3001 (by decide)
        have te3002 : s71 3002 = (s65 3002) := f73 3002 (by decide)
        have te3003 : s71 3003 = (s65 3003) := f73 3003 (by decide)
        have te3004 : s71 3004 = (s65 3004) := f73 3004 (by decide)
        have ht2 : tie s71 := ⟨te100.trans (tc100.trans (ht.1.trans (tc3001.symm.trans te3001.symm))), te101.trans (tc101.trans (ht.2.1.trans (tc3002.symm.trans te3002.symm))), te102.trans (tc102.trans (ht.2.2.1.trans (tc3003.symm.trans te3003.symm))), te103.trans (tc103.trans (ht.2.2.2.trans (tc3004.symm.trans te3004.symm)))⟩
        clear tc100 tc101 tc102 tc103 tc3001 tc3002 tc3003 tc3004 te100 te101 te102 te103 te3001 te3002 te3003 te3004
        refine tt_k 4 (S' := (23, [some (.inr (.inl 1000004)), some (.inr (.inl 0)), some (.inr (.inl 30)), some (.inr (.inl 47)), some (.inl (i + 9)), some (.inl r69), some (.inl r72)], [], n63, D64, s71, p66, c67)) rfl ?_
        exact ih (q + 1) (i + 9) (some (.inl r69)) (some (.inl r72)) (n63, D64, s71, p66, c67) ⟨hS71, hC67, (wp_rg hW76)⟩ ht2 (by omega) (by omega) (by omega) (by omega)
      by_cases h77 : (mi_and (xs (i).toNat) 15) = 3
      · have h78 := h77
        refine tt_tsw (x := (mi_and (xs (i).toNat) 15)) (off := 319) rfl (by omega) (by omega) (by rw [h77]; rfl) rfl ?_
        show tt Zi 12 0 (359, [some (.inr (.inl 1000004)), some (.inr (.inl 0)), some (.inr (.inl 30)), some (.inr (.inl 47)), some (.inl i), o5, o6], [], n, D, s, p, c) _
        refine tt_k 5 (S' := (365, [some (.inr (.inl 1000004)), some (.inr (.inl 0)), some (.inr (.inl 30)), some (.inr (.inl 47)), some (.inl i), o5, o6], [.inl (i + 1), .inr (.inl 1000004), .inr (.inl 0)], n, D, s, p, c)) rfl ?_
        refine tt_stat (j := 4) (i := (i + 1)) rfl hs (by omega) ?_
        show tt Zi 12 0 (366, [some (.inr (.inl 1000004)), some (.inr (.inl 0)), some (.inr (.inl 30)), some (.inr (.inl 47)), some (.inl i), o5, o6], [.inl ((xs ((i + 1)).toNat)), .inr (.inl 0)], n, D, s, p, c) _
        have b79 := hxs ((i + 1)).toNat
        refine tt_k 4 (S' := (371, [some (.inr (.inl 1000004)), some (.inr (.inl 0)), some (.inr (.inl 30)), some (.inr (.inl 47)), some (.inl i), o5, o6], [.inl (i + 2), .inr (.inl 1000004), .inl ((xs ((i + 1)).toNat)), .inr (.inl 0)], n, D, s, p, c)) rfl ?_
        refine tt_stat (j := 4) (i := (i + 2)) rfl hs (by omega) ?_
        show tt Zi 12 0 (372, [some (.inr (.inl 1000004)), some (.inr (.inl 0)), some (.inr (.inl 30)), some (.inr (.inl 47)), some (.inl i), o5, o6], [.inl ((xs ((i + 2)).toNat)), .inl ((xs ((i + 1)).toNat)), .inr (.inl 0)], n, D, s, p, c) _
        have b80 := hxs ((i + 2)).toNat
        refine tt_k 4 (S' := (377, [some (.inr (.inl 1000004)), some (.inr (.inl 0)), some (.inr (.inl 30)), some (.inr (.inl 47)), some (.inl i), o5, o6], [.inl (i + 3), .inr (.inl 1000004), .inl ((xs ((i + 2)).toNat)), .inl ((xs ((i + 1)).toNat)), .inr (.inl 0)], n, D, s, p, c)) rfl ?_
        refine tt_stat (j := 4) (i := (i + 3)) rfl hs (by omega) ?_
        show tt Zi 12 0 (378, [some (.inr (.inl 1000004)), some (.inr (.inl 0)), some (.inr (.inl 30)), some (.inr (.inl 47)), some (.inl i), o5, o6], [.inl ((xs ((i + 3)).toNat)), .inl ((xs ((i + 2)).toNat)), .inl ((xs ((i + 1)).toNat)), .inr (.inl 0)], n, D, s, p, c) _
        have b81 := hxs ((i + 3)).toNat
        refine tt_k 4 (S' := (383, [some (.inr (.inl 1000004)), some (.inr (.inl 0)), some (.inr (.inl 30)), some (.inr (.inl 47)), some (.inl i), o5, o6], [.inl (i + 4), .inr (.inl 1000004), .inl ((xs ((i + 3)).toNat)), .inl ((xs ((i + 2)).toNat)), .inl ((xs ((i + 1)).toNat)), .inr (.inl 0)], n, D, s, p, c)) rfl ?_
        refine tt_stat (j := 4) (i := (i + 4)) rfl hs (by omega) ?_
        show tt Zi 12 0 (384, [some (.inr (.inl 1000004)), some (.inr (.inl 0)), some (.inr (.inl 30)), some (.inr (.inl 47)), some (.inl i), o5, o6], [.inl ((xs ((i + 4)).toNat)), .inl ((xs ((i + 3)).toNat)), .inl ((xs ((i + 2)).toNat)), .inl ((xs ((i + 1)).toNat)), .inr (.inl 0)], n, D, s, p, c) _
        have b82 := hxs ((i + 4)).toNat
        refine tt_k 4 (S' := (389, [some (.inr (.inl 1000004)), some (.inr (.inl 0)), some (.inr (.inl 30)), some (.inr (.inl 47)), some (.inl i), o5, o6], [.inl (i + 5), .inr (.inl 1000004), .inl ((xs ((i + 4)).toNat)), .inl ((xs ((i + 3)).toNat)), .inl ((xs ((i + 2)).toNat)), .inl ((xs ((i + 1)).toNat)), .inr (.inl 0)], n, D, s, p, c)) rfl ?_
        refine tt_stat (j := 4) (i := (i + 5)) rfl hs (by omega) ?_
        show tt Zi 12 0 (390, [some (.inr (.inl 1000004)), some (.inr (.inl 0)), some (.inr (.inl 30)), some (.inr (.inl 47)), some (.inl i), o5, o6], [.inl ((xs ((i + 5)).toNat)), .inl ((xs ((i + 4)).toNat)), .inl ((xs ((i + 3)).toNat)), .inl ((xs ((i + 2)).toNat)), .inl ((xs ((i + 1)).toNat)), .inr (.inl 0)], n, D, s, p, c) _
        have b83 := hxs ((i + 5)).toNat
        refine tt_cl (by omega) rfl (h_measures (Zi := Zi) (q := q) (n := n) (D := D) (s := s) (p := p) (c := c) (by omega) hz (by omega) hS hC (wp_rg hW) ((xs ((i + 1)).toNat)) ((xs ((i + 2)).toNat)) ((xs ((i + 3)).toNat)) ((xs ((i + 4)).toNat)) ((xs ((i + 5)).toNat)) (by omega) (by omega) (by omega) (by omega) (by omega)) ?_
        rintro _ ⟨n84, D85, s86, p87, c88⟩ ⟨r90, rfl, b91, hY89, k92⟩
        have hS86 : bS s86 := hY89.1
        have hC88 : bC D85 c88 := hY89.2.1
        have hW87 : wp _ _ n84 D85 p87 s86 := hY89.2.2
        show tt Zi 12 0 (393, [some (.inr (.inl 1000004)), some (.inr (.inl 0)), some (.inr (.inl 30)), some (.inr (.inl 47)), some (.inl i), o5, o6], [.inl r90], n84, D85, s86, p87, c88) _
        have tc100 : s86 100 = (s 100) := hW87.gz 100 rfl
        have tc101 : s86 101 = (s 101) := hW87.gz 101 rfl
        have tc102 : s86 102 = (s 102) := hW87.gz 102 rfl
        have tc103 : s86 103 = (s 103) := hW87.gz 103 rfl
        have tc3001 : s86 3001 = (s 3001) := hW87.gz 3001 rfl
        have tc3002 : s86 3002 = (s 3002) := hW87.gz 3002 rfl
        have tc3003 : s86 3003 = (s 3003) := hW87.gz 3003 rfl
        have tc3004 : s86 3004 = (s 3004) := hW87.gz 3004 rfl
        refine tt_k 6 (S' := (401, [some (.inr (.inl 1000004)), some (.inr (.inl 0)), some (.inr (.inl 30)), some (.inr (.inl 47)), some (.inl i), some (.inl r90), o6], [.inl (i + 1), .inr (.inl 1000004), .inr (.inl 30)], n84, D85, s86, p87, c88)) rfl ?_
        refine tt_stat (j := 4) (i := (i + 1)) rfl hs (by omega) ?_
        show tt Zi 12 0 (402, [some (.inr (.inl 1000004)), some (.inr (.inl 0)), some (.inr (.inl 30)), some (.inr (.inl 47)), some (.inl i), some (.inl r90), o6], [.inl ((xs ((i + 1)).toNat)), .inr (.inl 30)], n84, D85, s86, p87, c88) _
        refine tt_k 4 (S' := (407, [some (.inr (.inl 1000004)), some (.inr (.inl 0)), some (.inr (.inl 30)), some (.inr (.inl 47)), some (.inl i), some (.inl r90), o6], [.inl (i + 2), .inr (.inl 1000004), .inl ((xs ((i + 1)).toNat)), .inr (.inl 30)], n84, D85, s86, p87, c88)) rfl ?_
        refine tt_stat (j := 4) (i := (i + 2)) rfl hs (by omega) ?_
        show tt Zi 12 0 (408, [some (.inr (.inl 1000004)), some (.inr (.inl 0)), some (.inr (.inl 30)), some (.inr (.inl 47)), some (.inl i), some (.inl r90), o6], [.inl ((xs ((i + 2)).toNat)), .inl ((xs ((i + 1)).toNat)), .inr (.inl 30)], n84, D85, s86, p87, c88) _
        refine tt_k 4 (S' := (413, [some (.inr (.inl 1000004)), some (.inr (.inl 0)), some (.inr (.inl 30)), some (.inr (.inl 47)), some (.inl i), some (.inl r90), o6], [.inl (i + 3), .inr (.inl 1000004), .inl ((xs ((i + 2)).toNat)), .inl ((xs ((i + 1)).toNat)), .inr (.inl 30)], n84, D85, s86, p87, c88)) rfl ?_
        refine tt_stat (j := 4) (i := (i + 3)) rfl hs (by omega) ?_
        show tt Zi 12 0 (414, [some (.inr (.inl 1000004)), some (.inr (.inl 0)), some (.inr (.inl 30)), some (.inr (.inl 47)), some (.inl i), some (.inl r90), o6], [.inl ((xs ((i + 3)).toNat)), .inl ((xs ((i + 2)).toNat)), .inl ((xs ((i + 1)).toNat)), .inr (.inl 30)], n84, D85, s86, p87, c88) _
        refine tt_k 4 (S' := (419, [some (.inr (.inl 1000004)), some (.inr (.inl 0)), some (.inr (.inl 30)), some (.inr (.inl 47)), some (.inl i), some (.inl r90), o6], [.inl (i + 4), .inr (.inl 1000004), .inl ((xs ((i + 3)).toNat)), .inl ((xs ((i + 2)).toNat)), .inl ((xs ((i + 1)).toNat)), .inr (.inl 30)], n84, D85, s86, p87, c88)) rfl ?_
        refine tt_stat (j := 4) (i := (i + 4)) rfl hs (by omega) ?_
        show tt Zi 12 0 (420, [some (.inr (.inl 1000004)), some (.inr (.inl 0)), some (.inr (.inl 30)), some (.inr (.inl 47)), some (.inl i), some (.inl r90), o6], [.inl ((xs ((i + 4)).toNat)), .inl ((xs ((i + 3)).toNat)), .inl ((xs ((i + 2)).toNat)), .inl ((xs ((i + 1)).toNat)), .inr (.inl 30)], n84, D85, s86, p87, c88) _
        refine tt_k 4 (S' := (425, [some (.inr (.inl 1000004)), some (.inr (.inl 0)), some (.inr (.inl 30)), some (.inr (.inl 47)), some (.inl i), some (.inl r90), o6], [.inl (i + 5), .inr (.inl 1000004), .inl ((xs ((i + 4)).toNat)), .inl ((xs ((i + 3)).toNat)), .inl ((xs ((i + 2)).toNat)), .inl ((xs ((i + 1)).toNat)), .inr (.inl 30)], n84, D85, s86, p87, c88)) rfl ?_
        refine tt_stat (j := 4) (i := (i + 5)) rfl hs (by omega) ?_
        show tt Zi 12 0 (426, [some (.inr (.inl 1000004)), some (.inr (.inl 0)), some (.inr (.inl 30)), some (.inr (.inl 47)), some (.inl i), some (.inl r90), o6], [.inl ((xs ((i + 5)).toNat)), .inl ((xs ((i + 4)).toNat)), .inl ((xs ((i + 3)).toNat)), .inl ((xs ((i + 2)).toNat)), .inl ((xs ((i + 1)).toNat)), .inr (.inl 30)], n84, D85, s86, p87, c88) _
        refine tt_cl (by omega) rfl (k_measures2 (Zi := Zi) (D := D85) (s := s86) (p := p87) (c := c88) (by omega) hS86 hC88 ((xs ((i + 1)).toNat)) ((xs ((i + 2)).toNat)) ((xs ((i + 3)).toNat)) ((xs ((i + 4)).toNat)) ((xs ((i + 5)).toNat)) (by omega) (by omega) (by omega) (by omega) (by omega)) ?_
        rintro _ _ ⟨s93, c94, rfl, rfl, hS93, hC94, f95, g96, k97⟩
        have hW98 := wp_rf f95 (by decide) hW87
        show tt Zi 12 0 (429, [some (.inr (.inl 1000004)), some (.inr (.inl 0)), some (.inr (.inl 30)), some (.inr (.inl 47)), some (.inl i), some (.inl r90), o6], [], n84, D85, s93, p87, c94) _
        have te100 : s93 100 = (s86 100) := f95 100 (by decide)
        have te101 : s93 101 = (s86 101) := f95 101 (by decide)
        have te102 : s93 102 = (s86 102) := f95 102 (by decide)
        have te103 : s93 103 = (s86 103) := f95 103 (by decide)
        have te3001 : s93 3001 = (s86 3001) := f95 3001 (by decide)
        have te3002 : s93 3002 = (s86 3002) := f95 3002 (by decide)
        have te3003 : s93 3003 = (s86 3003) := f95 3003 (by decide)
        have te3004 : s93 3004 = (s86 3004) := f95 3004 (by decide)
        have ht2 : tie s93 := ⟨te100.trans (tc100.trans (ht.1.trans (tc3001.symm.trans te3001.symm))), te101.trans (tc101.trans (ht.2.1.trans (tc3002.symm.trans te3002.symm))), te102.trans (tc102.trans (ht.2.2.1.trans (tc3003.symm.trans te3003.symm))), te103.trans (tc103.trans (ht.2.2.2.trans (tc3004.symm.trans te3004.symm)))⟩
        refine tt_k 3 (S' := (23, [some (.inr (.inl 1000004)), some (.inr (.inl 0)), some (.inr (.inl 30)), some (.inr (.inl 47)), some (.inl (i + 9)), some (.inl r90), o6], [], n84, D85, s93, p87, c94)) rfl ?_
        exact ih (q + 1) (i + 9) (some (.inl r90)) (o6) (n84, D85, s93, p87, c94) ⟨hS93, hC94, (wp_rg hW98)⟩ ht2 (by omega) (by omega) (by omega) (by omega)
      by_cases h99 : (mi_and (xs (i).toNat) 15) = 4
      · have h100 := h99
        refine tt_tsw (x := (mi_and (xs (i).toNat) 15)) (off := 392) rfl (by omega) (by omega) (by rw [h99]; rfl) rfl ?_
        show tt Zi 12 0 (432, [some (.inr (.inl 1000004)), some (.inr (.inl 0)), some (.inr (.inl 30)), some (.inr (.inl 47)), some (.inl i), o5, o6], [], n, D, s, p, c) _
        refine tt_k 5 (S' := (438, [some (.inr (.inl 1000004)), some (.inr (.inl 0)), some (.inr (.inl 30)), some (.inr (.inl 47)), some (.inl i), o5, o6], [.inl (i + 1), .inr (.inl 1000004), .inr (.inl 0)], n, D, s, p, c)) rfl ?_
        refine tt_stat (j := 4) (i := (i + 1)) rfl hs (by omega) ?_
        show tt Zi 12 0 (439, [some (.inr (.inl 1000004)), some (.inr (.inl 0)), some (.inr (.inl 30)), some (.inr (.inl 47)), some (.inl i), o5, o6], [.inl ((xs ((i + 1)).toNat)), .inr (.inl 0)], n, D, s, p, c) _
        have b101 := hxs ((i + 1)).toNat
        refine tt_k 1 (S' := (440, [some (.inr (.inl 1000004)), some (.inr (.inl 0)), some (.inr (.inl 30)), some (.inr (.inl 47)), some (.inl i), o5, o6], [.inr (.inl 47), .inl ((xs ((i + 1)).toNat)), .inr (.inl 0)], n, D, s, p, c)) rfl ?_
        refine tt_cl (by omega) rfl (h_pack (Zi := Zi) (q := q) (n := n) (D := D) (s := s) (p := p) (c := c) (by omega) hz (by omega) hS hC (wp_rg hW) ((xs ((i + 1)).toNat)) (by omega)) ?_
        rintro _ ⟨n102, D103, s104, p105, c106⟩ ⟨r108, rfl, b109, hY107⟩
        have hS104 : bS s104 := hY107.1
        have hC106 : bC D103 c106 := hY107.2.1
        have hW105 : wp _ _ n102 D103 p105 s104 := hY107.2.2
        show tt Zi 12 0 (443, [some (.inr (.inl 1000004)), some (.inr (.inl 0)), some (.inr (.inl 30)), some (.inr (.inl 47)), some (.inl i), o5, o6], [.inl r108], n102, D103, s104, p105, c106) _
        have tc100 : s104 100 = (s 100) := hW105.gz 100 rfl
        have tc101 : s104 101 = (s 101) := hW105.gz 101 rfl
        have tc102 : s104 102 = (s 102) := hW105.gz 102 rfl
        have tc103 : s104 103 = (s 103) := hW105.gz 103 rfl
        have tc3001 : s104 3001 = (s 3001) := hW105.gz 3001 rfl
        have tc3002 : s104 3002 = (s 3002) := hW105.gz 3002 rfl
        have tc3003 : s104 3003 = (s 3003) := hW105.gz 3003 rfl
        have tc3004 : s104 3004 = (s 3004) := hW105.gz 3004 rfl
        refine tt_k 6 (S' := (451, [some (.inr (.inl 1000004)), some (.inr (.inl 0)), some (.inr (.inl 30)), some (.inr (.inl 47)), some (.inl i), some (.inl r108), o6], [.inl (i + 1), .inr (.inl 1000004), .inr (.inl 30)], n102, D103, s104, p105, c106)) rfl ?_
        refine tt_stat (j := 4) (i := (i + 1)) rfl hs (by omega) ?_
        show tt Zi 12 0 (452, [some (.inr (.inl 1000004)), some (.inr (.inl 0)), some (.inr (.inl 30)), some (.inr (.inl 47)), some (.inl i), some (.inl r108), o6], [.inl ((xs ((i + 1)).toNat)), .inr (.inl 30)], n102, D103, s104, p105, c106) _
        refine tt_cl (by omega) rfl (k_pack (Zi := Zi) (D := D103) (s := s104) (p := p105) (c := c106) (by omega) hS104 hC106 ((xs ((i + 1)).toNat)) (by omega)) ?_
        rintro _ _ ⟨s110, c111, r112, rfl, rfl, hS110, hC111, f113, g114, b115⟩
        have hW116 := wp_rf f113 (by decide) hW105
        show tt Zi 12 0 (455, [some (.inr (.inl 1000004)), some (.inr (.inl 0)), some (.inr (.inl 30)), some (.inr (.inl 47)), some (.inl i), some (.inl r108), o6], [.inl r112], n102, D103, s110, p105, c111) _
        have te100 : s110 100 = (s104 100) := f113 100 (by decide)
        have te101 : s110 101 = (s104 101) := f113 101 (by decide)
        have te102 : s110 102 = (s104 102) := f113 102 (by decide)
        have te103 : s110 103 = (s104 103) := f113 103 (by decide)
        have te3001 : s110 3001 = (s104 3001) := f113 3001 (by decide)
        have te3002 : s110 3002 = (s104 3002) := f113 3002 (by decide)
        have te3003 : s110 3003 = (s104 3003) := f113 3003 (by decide)
        have te3004 : s110 3004 = (s104 3004) := f113 3004 (by decide)
        have ht2 : tie s110 := ⟨te100.trans (tc100.trans (ht.1.trans (tc3001.symm.trans te3001.symm))), te101.trans (tc101.trans (ht.2.1.trans (tc3002.symm.trans te3002.symm))), te102.trans (tc102.trans (ht.2.2.1.trans (tc3003.symm.trans te3003.symm))), te103.trans (tc103.trans (ht.2.2.2.trans (tc3004.symm.trans te3004.symm)))⟩
        clear tc100 tc101 tc102 tc103 tc3001 tc3002 tc3003 tc3004 te100 te101 te102 te103 te3001 te3002 te3003 te3004
        refine tt_k 4 (S' := (23, [some (.inr (.inl 1000004)), some (.inr (.inl 0)), some (.inr (.inl 30)), some (.inr (.inl 47)), some (.inl (i + 9)), some (.inl r108), some (.inl r112)], [], n102, D103, s110, p105, c111)) rfl ?_
        exact ih (q + 1) (i + 9) (some (.inl r108)) (some (.inl r112)) (n102, D103, s110, p105, c111) ⟨hS110, hC111, (wp_rg hW116)⟩ ht2 (by omega) (by omega) (by omega) (by omega)
      by_cases h117 : (mi_and (xs (i).toNat) 15) = 5
      · have h118 := h117
        refine tt_tsw (x := (mi_and (xs (i).toNat) 15)) (off := 420) rfl (by omega) (by omega) (by rw [h117]; rfl) rfl ?_
        show tt Zi 12 0 (460, [some (.inr (.inl 1000004)), some (.inr (.inl 0)), some (.inr (.inl 30)), some (.inr (.inl 47)), some (.inl i), o5, o6], [], n, D, s, p, c) _
        refine tt_k 1 (S' := (461, [some (.inr (.inl 1000004)), some (.inr (.inl 0)), some (.inr (.inl 30)), some (.inr (.inl 47)), some (.inl i), o5, o6], [.inr (.inl 0)], n, D, s, p, c)) rfl ?_
        refine tt_cl (by omega) rfl (g_size (Zi := Zi) (q := q) (n := n) (D := D) (s := s) (p := p) (c := c) (by omega) hz (by omega) hS hC (wp_rg hW) ) ?_
        rintro _ ⟨n119, D120, s121, p122, c123⟩ ⟨r125, rfl, b126, hY124⟩
        have hS121 : bS s121 := hY124.1
        have hC123 : bC D120 c123 := hY124.2.1
        have hW122 : wp _ _ n119 D120 p122 s121 := hY124.2.2
        show tt Zi 12 0 (464, [some (.inr (.inl 1000004)), some (.inr (.inl 0)), some (.inr (.inl 30)), some (.inr (.inl 47)), some (.inl i), o5, o6], [.inl r125], n119, D120, s121, p122, c123) _
        have tc100 : s121 100 = (s 100) := hW122.gz 100 rfl
        have tc101 : s121 101 = (s 101) := hW122.gz 101 rfl
        have tc102 : s121 102 = (s 102) := hW122.gz 102 rfl
        have tc103 : s121 103 = (s 103) := hW122.gz 103 rfl
        have tc3001 : s121 3001 = (s 3001) := hW122.gz 3001 rfl
        have tc3002 : s121 3002 = (s 3002) := hW122.gz 3002 rfl
        have tc3003 : s121 3003 = (s 3003) := hW122.gz 3003 rfl
        have tc3004 : s121 3004 = (s 3004) := hW122.gz 3004 rfl
        refine tt_k 2 (S' := (466, [some (.inr (.inl 1000004)), some (.inr (.inl 0)), some (.inr (.inl 30)), some (.inr (.inl 47)), some (.inl i), o5, o6], [.inr (.inl 30)], n119, D120, s121, p122, c123)) rfl ?_
        refine tt_cl (by omega) rfl (k_size (Zi := Zi) (D := D120) (s := s121) (p := p122) (c := c123) (by omega) hS121 hC123 ) ?_
        rintro _ _ ⟨s127, r128, rfl, rfl, hS127, f129, b130, k131, k132⟩
        have hW133 := wp_rf f129 (by decide) hW122
        show tt Zi 12 0 (469, [some (.inr (.inl 1000004)), some (.inr (.inl 0)), some (.inr (.inl 30)), some (.inr (.inl 47)), some (.inl i), o5, o6], [.inl r128], n119, D120, s127, p122, c123) _
        have te100 : s127 100 = (s121 100) := f129 100 (by decide)
        have te101 : s127 101 = (s121 101) := f129 101 (by decide)
        have te102 : s127 102 = (s121 102) := f129 102 (by decide)
        have te103 : s127 103 = (s121 103) := f129 103 (by decide)
        have te3001 : s127 3001 = (s121 3001) := f129 3001 (by decide)
        have te3002 : s127 3002 = (s121 3002) := f129 3002 (by decide)
        have te3003 : s127 3003 = (s121 3003) := f129 3003 (by decide)
        have te3004 : s127 3004 = (s121 3004) := f129 3004 (by decide)
        have ht2 : tie s127 := ⟨te100.trans (tc100.trans (ht.1.trans (tc3001.symm.trans te3001.symm))), te101.trans (tc101.trans (ht.2.1.trans (tc3002.symm.trans te3002.symm))), te102.trans (tc102.trans (ht.2.2.1.trans (tc3003.symm.trans te3003.symm))), te103.trans (tc103.trans (ht.2.2.2.trans (tc3004.symm.trans te3004.symm)))⟩
        clear tc100 tc101 tc102 tc103 tc3001 tc3002 tc3003 tc3004 te100 te101 te102 te103 te3001 te3002 te3003 te3004
        refine tt_k 4 (S' := (23, [some (.inr (.inl 1000004)), some (.inr (.inl 0)), some (.inr (.inl 30)), some (.inr (.inl 47)), some (.inl (i + 9)), o5, o6], [], n119, D120, s127, p122, c123)) rfl ?_
        exact ih (q + 1) (i + 9) (o5) (o6) (n119, D120, s127, p122, c123) ⟨hS127, hC123, (wp_rg hW133)⟩ ht2 (by omega) (by omega) (by omega) (by omega)
      by_cases h134 : (mi_and (xs (i).toNat) 15) = 6
      · have h135 := h134
        refine tt_tsw (x := (mi_and (xs (i).toNat) 15)) (off := 433) rfl (by omega) (by omega) (by rw [h134]; rfl) rfl ?_
        show tt Zi 12 0 (473, [some (.inr (.inl 1000004)), some (.inr (.inl 0)), some (.inr (.inl 30)), some (.inr (.inl 47)), some (.inl i), o5, o6], [], n, D, s, p, c) _
        refine tt_k 5 (S' := (479, [some (.inr (.inl 1000004)), some (.inr (.inl 0)), some (.inr (.inl 30)), some (.inr (.inl 47)), some (.inl i), o5, o6], [.inl (i + 1), .inr (.inl 1000004), .inr (.inl 0)], n, D, s, p, c)) rfl ?_
        refine tt_stat (j := 4) (i := (i + 1)) rfl hs (by omega) ?_
        show tt Zi 12 0 (480, [some (.inr (.inl 1000004)), some (.inr (.inl 0)), some (.inr (.inl 30)), some (.inr (.inl 47)), some (.inl i), o5, o6], [.inl ((xs ((i + 1)).toNat)), .inr (.inl 0)], n, D, s, p, c) _
        have b136 := hxs ((i + 1)).toNat
        refine tt_k 1 (S' := (481, [some (.inr (.inl 1000004)), some (.inr (.inl 0)), some (.inr (.inl 30)), some (.inr (.inl 47)), some (.inl i), o5, o6], [.inr (.inl 47), .inl ((xs ((i + 1)).toNat)), .inr (.inl 0)], n, D, s, p, c)) rfl ?_
        refine tt_cl (by omega) rfl (h_out (Zi := Zi) (q := q) (n := n) (D := D) (s := s) (p := p) (c := c) (by omega) hz (by omega) hS hC (wp_rg hW) ((xs ((i + 1)).toNat)) (by omega)) ?_
        rintro _ ⟨n137, D138, s139, p140, c141⟩ ⟨r143, rfl, b144, hY142⟩
        have hS139 : bS s139 := hY142.1
        have hC141 : bC D138 c141 := hY142.2.1
        have hW140 : wp _ _ n137 D138 p140 s139 := hY142.2.2
        show tt Zi 12 0 (484, [some (.inr (.inl 1000004)), some (.inr (.inl 0)), some (.inr (.inl 30)), some (.inr (.inl 47)), some (.inl i), o5, o6], [.inl r143], n137, D138, s139, p140, c141) _
        have tc100 : s139 100 = (s 100) := hW140.gz 100 rfl
        have tc101 : s139 101 = (s 101) := hW140.gz 101 rfl
        have tc102 : s139 102 = (s 102) := hW140.gz 102 rfl
        have tc103 : s139 103 = (s 103) := hW140.gz 103 rfl
        have tc3001 : s139 3001 = (s 3001) := hW140.gz 3001 rfl
        have tc3002 : s139 3002 = (s 3002) := hW140.gz 3002 rfl
        have tc3003 : s139 3003 = (s 3003) := hW140.gz 3003 rfl
        have tc3004 : s139 3004 = (s 3004) := hW140.gz 3004 rfl
        refine tt_k 6 (S' := (492, [some (.inr (.inl 1000004)), some (.inr (.inl 0)), some (.inr (.inl 30)), some (.inr (.inl 47)), some (.inl i), some (.inl r143), o6], [.inl (i + 1), .inr (.inl 1000004), .inr (.inl 30)], n137, D138, s139, p140, c141)) rfl ?_
        refine tt_stat (j := 4) (i := (i + 1)) rfl hs (by omega) ?_
        show tt Zi 12 0 (493, [some (.inr (.inl 1000004)), some (.inr (.inl 0)), some (.inr (.inl 30)), some (.inr (.inl 47)), some (.inl i), some (.inl r143), o6], [.inl ((xs ((i + 1)).toNat)), .inr (.inl 30)], n137, D138, s139, p140, c141) _
        refine tt_cl (by omega) rfl (k_out (Zi := Zi) (D := D138) (s := s139) (p := p140) (c := c141) (by omega) hS139 hC141 ((xs ((i + 1)).toNat)) (by omega)) ?_
        rintro _ _ ⟨s145, r146, rfl, rfl, hS145, f147, b148, k149⟩
        have hW150 := wp_rf f147 (by decide) hW140
        show tt Zi 12 0 (496, [some (.inr (.inl 1000004)), some (.inr (.inl 0)), some (.inr (.inl 30)), some (.inr (.inl 47)), some (.inl i), some (.inl r143), o6], [.inl r146], n137, D138, s145, p140, c141) _
        have te100 : s145 100 = (s139 100) := f147 100 (by decide)
        have te101 : s145 101 = (s139 101) := f147 101 (by decide)
        have te102 : s145 102 = (s139 102) := f147 102 (by decide)
        have te103 : s145 103 = (s139 103) := f147 103 (by decide)
        have te3001 : s145 3001 = (s139 3001) := f147 3001 (by decide)
        have te3002 : s145 3002 = (s139 3002) := f147 3002 (by decide)
        have te3003 : s145 3003 = (s139 3003) := f147 3003 (by decide)
        have te3004 : s145 3004 = (s139 3004) := f147 3004 (by decide)
        have ht2 : tie s145 := ⟨te100.trans (tc100.trans (ht.1.trans (tc3001.symm.trans te3001.symm))), te101.trans (tc101.trans (ht.2.1.trans (tc3002.symm.trans te3002.symm))), te102.trans (tc102.trans (ht.2.2.1.trans (tc3003.symm.trans te3003.symm))), te103.trans (tc103.trans (ht.2.2.2.trans (tc3004.symm.trans te3004.symm)))⟩
        clear tc100 tc101 tc102 tc103 tc3001 tc3002 tc3003 tc3004 te100 te101 te102 te103 te3001 te3002 te3003 te3004
        refine tt_k 4 (S' := (23, [some (.inr (.inl 1000004)), some (.inr (.inl 0)), some (.inr (.inl 30)), some (.inr (.inl 47)), some (.inl (i + 9)), some (.inl r143), some (.inl r146)], [], n137, D138, s145, p140, c141)) rfl ?_
        exact ih (q + 1) (i + 9) (some (.inl r143)) (some (.inl r146)) (n137, D138, s145, p140, c141) ⟨hS145, hC141, (wp_rg hW150)⟩ ht2 (by omega) (by omega) (by omega) (by omega)
      by_cases h151 : (mi_and (xs (i).toNat) 15) = 7
      · have h152 := h151
        refine tt_tsw (x := (mi_and (xs (i).toNat) 15)) (off := 461) rfl (by omega) (by omega) (by rw [h151]; rfl) rfl ?_
        show tt Zi 12 0 (501, [some (.inr (.inl 1000004)), some (.inr (.inl 0)), some (.inr (.inl 30)), some (.inr (.inl 47)), some (.inl i), o5, o6], [], n, D, s, p, c) _
        refine tt_k 5 (S' := (507, [some (.inr (.inl 1000004)), some (.inr (.inl 0)), some (.inr (.inl 30)), some (.inr (.inl 47)), some (.inl i), o5, o6], [.inl (i + 1), .inr (.inl 1000004), .inr (.inl 0)], n, D, s, p, c)) rfl ?_
        refine tt_stat (j := 4) (i := (i + 1)) rfl hs (by omega) ?_
        show tt Zi 12 0 (508, [some (.inr (.inl 1000004)), some (.inr (.inl 0)), some (.inr (.inl 30)), some (.inr (.inl 47)), some (.inl i), o5, o6], [.inl ((xs ((i + 1)).toNat)), .inr (.inl 0)], n, D, s, p, c) _
        have b153 := hxs ((i + 1)).toNat
        refine tt_k 4 (S' := (513, [some (.inr (.inl 1000004)), some (.inr (.inl 0)), some (.inr (.inl 30)), some (.inr (.inl 47)), some (.inl i), o5, o6], [.inl (i + 2), .inr (.inl 1000004), .inl ((xs ((i + 1)).toNat)), .inr (.inl 0)], n, D, s, p, c)) rfl ?_
        refine tt_stat (j := 4) (i := (i + 2)) rfl hs (by omega) ?_
        show tt Zi 12 0 (514, [some (.inr (.inl 1000004)), some (.inr (.inl 0)), some (.inr (.inl 30)), some (.inr (.inl 47)), some (.inl i), o5, o6], [.inl ((xs ((i + 2)).toNat)), .inl ((xs ((i + 1)).toNat)), .inr (.inl 0)], n, D, s, p, c) _
        have b154 := hxs ((i + 2)).toNat
        refine tt_k 4 (S' := (519, [some (.inr (.inl 1000004)), some (.inr (.inl 0)), some (.inr (.inl 30)), some (.inr (.inl 47)), some (.inl i), o5, o6], [.inl (i + 3), .inr (.inl 1000004), .inl ((xs ((i + 2)).toNat)), .inl ((xs ((i + 1)).toNat)), .inr (.inl 0)], n, D, s, p, c)) rfl ?_
        refine tt_stat (j := 4) (i := (i + 3)) rfl hs (by omega) ?_
        show tt Zi 12 0 (520, [some (.inr (.inl 1000004)), some (.inr (.inl 0)), some (.inr (.inl 30)), some (.inr (.inl 47)), some (.inl i), o5, o6], [.inl ((xs ((i + 3)).toNat)), .inl ((xs ((i + 2)).toNat)), .inl ((xs ((i + 1)).toNat)), .inr (.inl 0)], n, D, s, p, c) _
        have b155 := hxs ((i + 3)).toNat
        refine tt_k 4 (S' := (525, [some (.inr (.inl 1000004)), some (.inr (.inl 0)), some (.inr (.inl 30)), some (.inr (.inl 47)), some (.inl i), o5, o6], [.inl (i + 4), .inr (.inl 1000004), .inl ((xs ((i + 3)).toNat)), .inl ((xs ((i + 2)).toNat)), .inl ((xs ((i + 1)).toNat)), .inr (.inl 0)], n, D, s, p, c)) rfl ?_
        refine tt_stat (j := 4) (i := (i + 4)) rfl hs (by omega) ?_
        show tt Zi 12 0 (526, [some (.inr (.inl 1000004)), some (.inr (.inl 0)), some (.inr (.inl 30)), some (.inr (.inl 47)), some (.inl i), o5, o6], [.inl ((xs ((i + 4)).toNat)), .inl ((xs ((i + 3)).toNat)), .inl ((xs ((i + 2)).toNat)), .inl ((xs ((i + 1)).toNat)), .inr (.inl 0)], n, D, s, p, c) _
        have b156 := hxs ((i + 4)).toNat
        refine tt_k 4 (S' := (531, [some (.inr (.inl 1000004)), some (.inr (.inl 0)), some (.inr (.inl 30)), some (.inr (.inl 47)), some (.inl i), o5, o6], [.inl (i + 5), .inr (.inl 1000004), .inl ((xs ((i + 4)).toNat)), .inl ((xs ((i + 3)).toNat)), .inl ((xs ((i + 2)).toNat)), .inl ((xs ((i + 1)).toNat)), .inr (.inl 0)], n, D, s, p, c)) rfl ?_
        refine tt_stat (j := 4) (i := (i + 5)) rfl hs (by omega) ?_
        show tt Zi 12 0 (532, [some (.inr (.inl 1000004)), some (.inr (.inl 0)), some (.inr (.inl 30)), some (.inr (.inl 47)), some (.inl i), o5, o6], [.inl ((xs ((i + 5)).toNat)), .inl ((xs ((i + 4)).toNat)), .inl ((xs ((i + 3)).toNat)), .inl ((xs ((i + 2)).toNat)), .inl ((xs ((i + 1)).toNat)), .inr (.inl 0)], n, D, s, p, c) _
        have b157 := hxs ((i + 5)).toNat
        refine tt_k 1 (S' := (533, [some (.inr (.inl 1000004)), some (.inr (.inl 0)), some (.inr (.inl 30)), some (.inr (.inl 47)), some (.inl i), o5, o6], [.inr (.inl 47), .inl ((xs ((i + 5)).toNat)), .inl ((xs ((i + 4)).toNat)), .inl ((xs ((i + 3)).toNat)), .inl ((xs ((i + 2)).toNat)), .inl ((xs ((i + 1)).toNat)), .inr (.inl 0)], n, D, s, p, c)) rfl ?_
        refine tt_cl (by omega) rfl (h_feed (Zi := Zi) (q := q) (n := n) (D := D) (s := s) (p := p) (c := c) (by omega) hz (by omega) hS hC (wp_rg hW) ((xs ((i + 1)).toNat)) ((xs ((i + 2)).toNat)) ((xs ((i + 3)).toNat)) ((xs ((i + 4)).toNat)) ((xs ((i + 5)).toNat)) (by omega) (by omega) (by omega) (by omega) (by omega)) ?_
        rintro _ ⟨n158, D159, s160, p161, c162⟩ ⟨r164, rfl, b165, hY163⟩
        have hS160 : bS s160 := hY163.1
        have hC162 : bC D159 c162 := hY163.2.1
        have hW161 : wp _ _ n158 D159 p161 s160 := hY163.2.2
        show tt Zi 12 0 (536, [some (.inr (.inl 1000004)), some (.inr (.inl 0)), some (.inr (.inl 30)), some (.inr (.inl 47)), some (.inl i), o5, o6], [.inl r164], n158, D159, s160, p161, c162) _
        have tc100 : s160 100 = (s 100) := hW161.gz 100 rfl
        have tc101 : s160 101 = (s 101) := hW161.gz 101 rfl
        have tc102 : s160 102 = (s 102) := hW161.gz 102 rfl
        have tc103 : s160 103 = (s 103) := hW161.gz 103 rfl
        have tc3001 : s160 3001 = (s 3001) := hW161.gz 3001 rfl
        have tc3002 : s160 3002 = (s 3002) := hW161.gz 3002 rfl
        have tc3003 : s160 3003 = (s 3003) := hW161.gz 3003 rfl
        have tc3004 : s160 3004 = (s 3004) := hW161.gz 3004 rfl
        refine tt_k 6 (S' := (544, [some (.inr (.inl 1000004)), some (.inr (.inl 0)), some (.inr (.inl 30)), some (.inr (.inl 47)), some (.inl i), some (.inl r164), o6], [.inl (i + 1), .inr (.inl 1000004), .inr (.inl 30)], n158, D159, s160, p161, c162)) rfl ?_
        refine tt_stat (j := 4) (i := (i + 1)) rfl hs (by omega) ?_
        show tt Zi 12 0 (545, [some (.inr (.inl 1000004)), some (.inr (.inl 0)), some (.inr (.inl 30)), some (.inr (.inl 47)), some (.inl i), some (.inl r164), o6], [.inl ((xs ((i + 1)).toNat)), .inr (.inl 30)], n158, D159, s160, p161, c162) _
        refine tt_k 4 (S' := (550, [some (.inr (.inl 1000004)), some (.inr (.inl 0)), some (.inr (.inl 30)), some (.inr (.inl 47)), some (.inl i), some (.inl r164), o6], [.inl (i + 2), .inr (.inl 1000004), .inl ((xs ((i + 1)).toNat)), .inr (.inl 30)], n158, D159, s160, p161, c162)) rfl ?_
        refine tt_stat (j := 4) (i := (i + 2)) rfl hs (by omega) ?_
        show tt Zi 12 0 (551, [some (.inr (.inl 1000004)), some (.inr (.inl 0)), some (.inr (.inl 30)), some (.inr (.inl 47)), some (.inl i), some (.inl r164), o6], [.inl ((xs ((i + 2)).toNat)), .inl ((xs ((i + 1)).toNat)), .inr (.inl 30)], n158, D159, s160, p161, c162) _
        refine tt_k 4 (S' := (556, [some (.inr (.inl 1000004)), some (.inr (.inl 0)), some (.inr (.inl 30)), some (.inr (.inl 47)), some (.inl i), some (.inl r164), o6], [.inl (i + 3), .inr (.inl 1000004), .inl ((xs ((i + 2)).toNat)), .inl ((xs ((i + 1)).toNat)), .inr (.inl 30)], n158, D159, s160, p161, c162)) rfl ?_
        refine tt_stat (j := 4) (i := (i + 3)) rfl hs (by omega) ?_
        show tt Zi 12 0 (557, [some (.inr (.inl 1000004)), some (.inr (.inl 0)), some (.inr (.inl 30)), some (.inr (.inl 47)), some (.inl i), some (.inl r164), o6], [.inl ((xs ((i + 3)).toNat)), .inl ((xs ((i + 2)).toNat)), .inl ((xs ((i + 1)).toNat)), .inr (.inl 30)], n158, D159, s160, p161, c162) _
        refine tt_k 4 (S' := (562, [some (.inr (.inl 1000004)), some (.inr (.inl 0)), some (.inr (.inl 30)), some (.inr (.inl 47)), some (.inl i), some (.inl r164), o6], [.inl (i + 4), .inr (.inl 1000004), .inl ((xs ((i + 3)).toNat)), .inl ((xs ((i + 2)).toNat)), .inl ((xs ((i + 1)).toNat)), .inr (.inl 30)], n158, D159, s160, p161, c162)) rfl ?_
        refine tt_stat (j := 4) (i := (i + 4)) rfl hs (by omega) ?_
        show tt Zi 12 0 (563, [some (.inr (.inl 1000004)), some (.inr (.inl 0)), some (.inr (.inl 30)), some (.inr (.inl 47)), some (.inl i), some (.inl r164), o6], [.inl ((xs ((i + 4)).toNat)), .inl ((xs ((i + 3)).toNat)), .inl ((xs ((i + 2)).toNat)), .inl ((xs ((i + 1)).toNat)), .inr (.inl 30)], n158, D159, s160, p161, c162) _
        refine tt_k 4 (S' := (568, [some (.inr (.inl 1000004)), some (.inr (.inl 0)), some (.inr (.inl 30)), some (.inr (.inl 47)), some (.inl i), some (.inl r164), o6], [.inl (i + 5), .inr (.inl 1000004), .inl ((xs ((i + 4)).toNat)), .inl ((xs ((i + 3)).toNat)), .inl ((xs ((i + 2)).toNat)), .inl ((xs ((i + 1)).toNat)), .inr (.inl 30)], n158, D159, s160, p161, c162)) rfl ?_
        refine tt_stat (j := 4) (i := (i + 5)) rfl hs (by omega) ?_
        show tt Zi 12 0 (569, [some (.inr (.inl 1000004)), some (.inr (.inl 0)), some (.inr (.inl 30)), some (.inr (.inl 47)), some (.inl i), some (.inl r164), o6], [.inl ((xs ((i + 5)).toNat)), .inl ((xs ((i + 4)).toNat)), .inl ((xs ((i + 3)).toNat)), .inl ((xs ((i + 2)).toNat)), .inl ((xs ((i + 1)).toNat)), .inr (.inl 30)], n158, D159, s160, p161, c162) _
        refine tt_cl (by omega) rfl (k_feed (Zi := Zi) (D := D159) (s := s160) (p := p161) (c := c162) (by omega) hS160 hC162 ((xs ((i + 1)).toNat)) ((xs ((i + 2)).toNat)) ((xs ((i + 3)).toNat)) ((xs ((i + 4)).toNat)) ((xs ((i + 5)).toNat)) (by omega) (by omega) (by omega) (by omega) (by omega)) ?_
        rintro _ _ ⟨s166, c167, r168, rfl, rfl, hS166, hC167, f169, g170, b171⟩
        have hW172 := wp_rf f169 (by decide) hW161
        show tt Zi 12 0 (572, [some (.inr (.inl 1000004)), some (.inr (.inl 0)), some (.inr (.inl 30)), some (.inr (.inl 47)), some (.inl i), some (.inl r164), o6], [.inl r168], n158, D159, s166, p161, c167) _
        have te100 : s166 100 = (s160 100) := f169 100 (by decide)
        have te101 : s166 101 = (s160 101) := f169 101 (by decide)
        have te102 : s166 102 = (s160 102) := f169 102 (by decide)
        have te103 : s166 103 = (s160 103) := f169 103 (by decide)
        have te3001 : s166 3001 = (s160 3001) := f169 3001 (by decide)
        have te3002 : s166 3002 = (s160 3002) := f169 3002 (by decide)
        have te3003 : s166 3003 = (s160 3003) := f169 3003 (by decide)
        have te3004 : s166 3004 = (s160 3004) := f169 3004 (by decide)
        have ht2 : tie s166 := ⟨te100.trans (tc100.trans (ht.1.trans (tc3001.symm.trans te3001.symm))), te101.trans (tc101.trans (ht.2.1.trans (tc3002.symm.trans te3002.symm))), te102.trans (tc102.trans (ht.2.2.1.trans (tc3003.symm.trans te3003.symm))), te103.trans (tc103.trans (ht.2.2.2.trans (tc3004.symm.trans te3004.symm)))⟩
        clear tc100 tc101 tc102 tc103 tc3001 tc3002 tc3003 tc3004 te100 te101 te102 te103 te3001 te3002 te3003 te3004
        refine tt_k 4 (S' := (23, [some (.inr (.inl 1000004)), some (.inr (.inl 0)), some (.inr (.inl 30)), some (.inr (.inl 47)), some (.inl (i + 9)), some (.inl r164), some (.inl r168)], [], n158, D159, s166, p161, c167)) rfl ?_
        exact ih (q + 1) (i + 9) (some (.inl r164)) (some (.inl r168)) (n158, D159, s166, p161, c167) ⟨hS166, hC167, (wp_rg hW172)⟩ ht2 (by omega) (by omega) (by omega) (by omega)
      by_cases h173 : (mi_and (xs (i).toNat) 15) = 8
      · have h174 := h173
        refine tt_tsw (x := (mi_and (xs (i).toNat) 15)) (off := 537) rfl (by omega) (by omega) (by rw [h173]; rfl) rfl ?_
        show tt Zi 12 0 (577, [some (.inr (.inl 1000004)), some (.inr (.inl 0)), some (.inr (.inl 30)), some (.inr (.inl 47)), some (.inl i), o5, o6], [], n, D, s, p, c) _
        refine tt_k 5 (S' := (583, [some (.inr (.inl 1000004)), some (.inr (.inl 0)), some (.inr (.inl 30)), some (.inr (.inl 47)), some (.inl i), o5, o6], [.inl (i + 1), .inr (.inl 1000004), .inr (.inl 0)], n, D, s, p, c)) rfl ?_
        refine tt_stat (j := 4) (i := (i + 1)) rfl hs (by omega) ?_
        show tt Zi 12 0 (584, [some (.inr (.inl 1000004)), some (.inr (.inl 0)), some (.inr (.inl 30)), some (.inr (.inl 47)), some (.inl i), o5, o6], [.inl ((xs ((i + 1)).toNat)), .inr (.inl 0)], n, D, s, p, c) _
        have b175 := hxs ((i + 1)).toNat
        refine tt_cl (by omega) rfl (h_end (Zi := Zi) (q := q) (n := n) (D := D) (s := s) (p := p) (c := c) (by omega) hz (by omega) hS hC (wp_rg hW) ((xs ((i + 1)).toNat)) (by omega)) ?_
        rintro _ ⟨n176, D177, s178, p179, c180⟩ ⟨r182, rfl, b183, hY181⟩
        have hS178 : bS s178 := hY181.1
        have hC180 : bC D177 c180 := hY181.2.1
        have hW179 : wp _ _ n176 D177 p179 s178 := hY181.2.2
        show tt Zi 12 0 (587, [some (.inr (.inl 1000004)), some (.inr (.inl 0)), some (.inr (.inl 30)), some (.inr (.inl 47)), some (.inl i), o5, o6], [.inl r182], n176, D177, s178, p179, c180) _
        have tc100 : s178 100 = (s 100) := hW179.gz 100 rfl
        have tc101 : s178 101 = (s 101) := hW179.gz 101 rfl
        have tc102 : s178 102 = (s 102) := hW179.gz 102 rfl
        have tc103 : s178 103 = (s 103) := hW179.gz 103 rfl
        have tc3001 : s178 3001 = (s 3001) := hW179.gz 3001 rfl
        have tc3002 : s178 3002 = (s 3002) := hW179.gz 3002 rfl
        have tc3003 : s178 3003 = (s 3003) := hW179.gz 3003 rfl
        have tc3004 : s178 3004 = (s 3004) := hW179.gz 3004 rfl
        refine tt_k 6 (S' := (595, [some (.inr (.inl 1000004)), some (.inr (.inl 0)), some (.inr (.inl 30)), some (.inr (.inl 47)), some (.inl i), some (.inl r182), o6], [.inl (i + 1), .inr (.inl 1000004), .inr (.inl 30)], n176, D177, s178, p179, c180)) rfl ?_
        refine tt_stat (j := 4) (i := (i + 1)) rfl hs (by omega) ?_
        show tt Zi 12 0 (596, [some (.inr (.inl 1000004)), some (.inr (.inl 0)), some (.inr (.inl 30)), some (.inr (.inl 47)), some (.inl i), some (.inl r182), o6], [.inl ((xs ((i + 1)).toNat)), .inr (.inl 30)], n176, D177, s178, p179, c180) _
        refine tt_cl (by omega) rfl (k_end (Zi := Zi) (D := D177) (s := s178) (p := p179) (c := c180) (by omega) hS178 hC180 ((xs ((i + 1)).toNat)) (by omega)) ?_
        rintro _ _ ⟨s184, rfl, rfl, hS184, f185, k186, k187⟩
        have hW188 := wp_rf f185 (by decide) hW179
        show tt Zi 12 0 (599, [some (.inr (.inl 1000004)), some (.inr (.inl 0)), some (.inr (.inl 30)), some (.inr (.inl 47)), some (.inl i), some (.inl r182), o6], [], n176, D177, s184, p179, c180) _
        have te100 : s184 100 = (s178 100) := f185 100 (by decide)
        have te101 : s184 101 = (s178 101) := f185 101 (by decide)
        have te102 : s184 102 = (s178 102) := f185 102 (by decide)
        have te103 : s184 103 = (s178 103) := f185 103 (by decide)
        have te3001 : s184 3001 = (s178 3001) := f185 3001 (by decide)
        have te3002 : s184 3002 = (s178 3002) := f185 3002 (by decide)
        have te3003 : s184 3003 = (s178 3003) := f185 3003 (by decide)
        have te3004 : s184 3004 = (s178 3004) := f185 3004 (by decide)
        have ht2 : tie s184 := ⟨te100.trans (tc100.trans (ht.1.trans (tc3001.symm.trans te3001.symm))), te101.trans (tc101.trans (ht.2.1.trans (tc3002.symm.trans te3002.symm))), te102.trans (tc102.trans (ht.2.2.1.trans (tc3003.symm.trans te3003.symm))), te103.trans (tc103.trans (ht.2.2.2.trans (tc3004.symm.trans te3004.symm)))⟩
        clear tc100 tc101 tc102 tc103 tc3001 tc3002 tc3003 tc3004 te100 te101 te102 te103 te3001 te3002 te3003 te3004
        refine tt_k 3 (S' := (23, [some (.inr (.inl 1000004)), some (.inr (.inl 0)), some (.inr (.inl 30)), some (.inr (.inl 47)), some (.inl (i + 9)), some (.inl r182), o6], [], n176, D177, s184, p179, c180)) rfl ?_
        exact ih (q + 1) (i + 9) (some (.inl r182)) (o6) (n176, D177, s184, p179, c180) ⟨hS184, hC180, (wp_rg hW188)⟩ ht2 (by omega) (by omega) (by omega) (by omega)
      by_cases h189 : (mi_and (xs (i).toNat) 15) = 9
      · have h190 := h189
        refine tt_tsw (x := (mi_and (xs (i).toNat) 15)) (off := 562) rfl (by omega) (by omega) (by rw [h189]; rfl) rfl ?_
        show tt Zi 12 0 (602, [some (.inr (.inl 1000004)), some (.inr (.inl 0)), some (.inr (.inl 30)), some (.inr (.inl 47)), some (.inl i), o5, o6], [], n, D, s, p, c) _
        refine tt_k 5 (S' := (608, [some (.inr (.inl 1000004)), some (.inr (.inl 0)), some (.inr (.inl 30)), some (.inr (.inl 47)), some (.inl i), o5, o6], [.inl (i + 1), .inr (.inl 1000004), .inr (.inl 0)], n, D, s, p, c)) rfl ?_
        refine tt_stat (j := 4) (i := (i + 1)) rfl hs (by omega) ?_
        show tt Zi 12 0 (609, [some (.inr (.inl 1000004)), some (.inr (.inl 0)), some (.inr (.inl 30)), some (.inr (.inl 47)), some (.inl i), o5, o6], [.inl ((xs ((i + 1)).toNat)), .inr (.inl 0)], n, D, s, p, c) _
        have b191 := hxs ((i + 1)).toNat
        refine tt_k 4 (S' := (614, [some (.inr (.inl 1000004)), some (.inr (.inl 0)), some (.inr (.inl 30)), some (.inr (.inl 47)), some (.inl i), o5, o6], [.inl (i + 2), .inr (.inl 1000004), .inl ((xs ((i + 1)).toNat)), .inr (.inl 0)], n, D, s, p, c)) rfl ?_
        refine tt_stat (j := 4) (i := (i + 2)) rfl hs (by omega) ?_
        show tt Zi 12 0 (615, [some (.inr (.inl 1000004)), some (.inr (.inl 0)), some (.inr (.inl 30)), some (.inr (.inl 47)), some (.inl i), o5, o6], [.inl ((xs ((i + 2)).toNat)), .inl ((xs ((i + 1)).toNat)), .inr (.inl 0)], n, D, s, p, c) _
        have b192 := hxs ((i + 2)).toNat
        refine tt_k 1 (S' := (616, [some (.inr (.inl 1000004)), some (.inr (.inl 0)), some (.inr (.inl 30)), some (.inr (.inl 47)), some (.inl i), o5, o6], [.inr (.inl 47), .inl ((xs ((i + 2)).toNat)), .inl ((xs ((i + 1)).toNat)), .inr (.inl 0)], n, D, s, p, c)) rfl ?_
        refine tt_cl (by omega) rfl (h_change (Zi := Zi) (q := q) (n := n) (D := D) (s := s) (p := p) (c := c) (by omega) hz (by omega) hS hC (wp_rg hW) ((xs ((i + 1)).toNat)) ((xs ((i + 2)).toNat)) (by omega) (by omega)) ?_
        rintro _ ⟨n193, D194, s195, p196, c197⟩ ⟨r199, rfl, b200, hY198⟩
        have hS195 : bS s195 := hY198.1
        have hC197 : bC D194 c197 := hY198.2.1
        have hW196 : wp _ _ n193 D194 p196 s195 := hY198.2.2
        show tt Zi 12 0 (619, [some (.inr (.inl 1000004)), some (.inr (.inl 0)), some (.inr (.inl 30)), some (.inr (.inl 47)), some (.inl i), o5, o6], [.inl r199], n193, D194, s195, p196, c197) _
        have tc100 : s195 100 = (s 100) := hW196.gz 100 rfl
        have tc101 : s195 101 = (s 101) := hW196.gz 101 rfl
        have tc102 : s195 102 = (s 102) := hW196.gz 102 rfl
        have tc103 : s195 103 = (s 103) := hW196.gz 103 rfl
        have tc3001 : s195 3001 = (s 3001) := hW196.gz 3001 rfl
        have tc3002 : s195 3002 = (s 3002) := hW196.gz 3002 rfl
        have tc3003 : s195 3003 = (s 3003) := hW196.gz 3003 rfl
        have tc3004 : s195 3004 = (s 3004) := hW196.gz 3004 rfl
        refine tt_k 6 (S' := (627, [some (.inr (.inl 1000004)), some (.inr (.inl 0)), some (.inr (.inl 30)), some (.inr (.inl 47)), some (.inl i), some (.inl r199), o6], [.inl (i + 1), .inr (.inl 1000004), .inr (.inl 30)], n193, D194, s195, p196, c197)) rfl ?_
        refine tt_stat (j := 4) (i := (i + 1)) rfl hs (by omega) ?_
        show tt Zi 12 0 (628, [some (.inr (.inl 1000004)), some (.inr (.inl 0)), some (.inr (.inl 30)), some (.inr (.inl 47)), some (.inl i), some (.inl r199), o6], [.inl ((xs ((i + 1)).toNat)), .inr (.inl 30)], n193, D194, s195, p196, c197) _
        refine tt_k 4 (S' := (633, [some (.inr (.inl 1000004)), some (.inr (.inl 0)), some (.inr (.inl 30)), some (.inr (.inl 47)), some (.inl i), some (.inl r199), o6], [.inl (i + 2), .inr (.inl 1000004), .inl ((xs ((i + 1)).toNat)), .inr (.inl 30)], n193, D194, s195, p196, c197)) rfl ?_
        refine tt_stat (j := 4) (i := (i + 2)) rfl hs (by omega) ?_
        show tt Zi 12 0 (634, [some (.inr (.inl 1000004)), some (.inr (.inl 0)), some (.inr (.inl 30)), some (.inr (.inl 47)), some (.inl i), some (.inl r199), o6], [.inl ((xs ((i + 2)).toNat)), .inl ((xs ((i + 1)).toNat)), .inr (.inl 30)], n193, D194, s195, p196, c197) _
        refine tt_cl (by omega) rfl (k_change (Zi := Zi) (D := D194) (s := s195) (p := p196) (c := c197) (by omega) hS195 hC197 ((xs ((i + 1)).toNat)) ((xs ((i + 2)).toNat)) (by omega) (by omega)) ?_
        rintro _ _ ⟨s201, c202, r203, rfl, rfl, hS201, hC202, f204, g205, b206⟩
        have hW207 := wp_rf f204 (by decide) hW196
        show tt Zi 12 0 (637, [some (.inr (.inl 1000004)), some (.inr (.inl 0)), some (.inr (.inl 30)), some (.inr (.inl 47)), some (.inl i), some (.inl r199), o6], [.inl r203], n193, D194, s201, p196, c202) _
        have te100 : s201 100 = (s195 100) := f204 100 (by decide)
        have te101 : s201 101 = (s195 101) := f204 101 (by decide)
        have te102 : s201 102 = (s195 102) := f204 102 (by decide)
        have te103 : s201 103 = (s195 103) := f204 103 (by decide)
        have te3001 : s201 3001 = (s195 3001) := f204 3001 (by decide)
        have te3002 : s201 3002 = (s195 3002) := f204 3002 (by decide)
        have te3003 : s201 3003 = (s195 3003) := f204 3003 (by decide)
        have te3004 : s201 3004 = (s195 3004) := f204 3004 (by decide)
        have ht2 : tie s201 := ⟨te100.trans (tc100.trans (ht.1.trans (tc3001.symm.trans te3001.symm))), te101.trans (tc101.trans (ht.2.1.trans (tc3002.symm.trans te3002.symm))), te102.trans (tc102.trans (ht.2.2.1.trans (tc3003.symm.trans te3003.symm))), te103.trans (tc103.trans (ht.2.2.2.trans (tc3004.symm.trans te3004.symm)))⟩
        clear tc100 tc101 tc102 tc103 tc3001 tc3002 tc3003 tc3004 te100 te101 te102 te103 te3001 te3002 te3003 te3004
        refine tt_k 4 (S' := (23, [some (.inr (.inl 1000004)), some (.inr (.inl 0)), some (.inr (.inl 30)), some (.inr (.inl 47)), some (.inl (i + 9)), some (.inl r199), some (.inl r203)], [], n193, D194, s201, p196, c202)) rfl ?_
        exact ih (q + 1) (i + 9) (some (.inl r199)) (some (.inl r203)) (n193, D194, s201, p196, c202) ⟨hS201, hC202, (wp_rg hW207)⟩ ht2 (by omega) (by omega) (by omega) (by omega)
      by_cases h208 : (mi_and (xs (i).toNat) 15) = 10
      · have h209 := h208
        refine tt_tsw (x := (mi_and (xs (i).toNat) 15)) (off := 602) rfl (by omega) (by omega) (by rw [h208]; rfl) rfl ?_
        show tt Zi 12 0 (642, [some (.inr (.inl 1000004)), some (.inr (.inl 0)), some (.inr (.inl 30)), some (.inr (.inl 47)), some (.inl i), o5, o6], [], n, D, s, p, c) _
        refine tt_k 2 (S' := (644, [some (.inr (.inl 1000004)), some (.inr (.inl 0)), some (.inr (.inl 30)), some (.inr (.inl 47)), some (.inl i), o5, o6], [.inr (.inl 47), .inr (.inl 0)], n, D, s, p, c)) rfl ?_
        refine tt_cl (by omega) rfl (h_turn (Zi := Zi) (q := q) (n := n) (D := D) (s := s) (p := p) (c := c) (by omega) hz (by omega) hS hC (wp_rg hW) ) ?_
        rintro _ ⟨n210, D211, s212, p213, c214⟩ ⟨r216, rfl, b217, hY215⟩
        have hS212 : bS s212 := hY215.1
        have hC214 : bC D211 c214 := hY215.2.1
        have hW213 : wp _ _ n210 D211 p213 s212 := hY215.2.2
        show tt Zi 12 0 (647, [some (.inr (.inl 1000004)), some (.inr (.inl 0)), some (.inr (.inl 30)), some (.inr (.inl 47)), some (.inl i), o5, o6], [.inl r216], n210, D211, s212, p213, c214) _
        have tc100 : s212 100 = (s 100) := hW213.gz 100 rfl
        have tc101 : s212 101 = (s 101) := hW213.gz 101 rfl
        have tc102 : s212 102 = (s 102) := hW213.gz 102 rfl
        have tc103 : s212 103 = (s 103) := hW213.gz 103 rfl
        have tc3001 : s212 3001 = (s 3001) := hW213.gz 3001 rfl
        have tc3002 : s212 3002 = (s 3002) := hW213.gz 3002 rfl
        have tc3003 : s212 3003 = (s 3003) := hW213.gz 3003 rfl
        have tc3004 : s212 3004 = (s 3004) := hW213.gz 3004 rfl
        refine tt_k 2 (S' := (650, [some (.inr (.inl 1000004)), some (.inr (.inl 0)), some (.inr (.inl 30)), some (.inr (.inl 47)), some (.inl i), some (.inl r216), o6], [.inr (.inl 30)], n210, D211, s212, p213, c214)) rfl ?_
        refine tt_cl (by omega) rfl (k_turn (Zi := Zi) (D := D211) (s := s212) (p := p213) (c := c214) (by omega) hS212 hC214 ) ?_
        rintro _ _ ⟨s218, c219, r220, rfl, rfl, hS218, hC219, f221, g222, b223⟩
        have hW224 := wp_rf f221 (by decide) hW213
        show tt Zi 12 0 (653, [some (.inr (.inl 1000004)), some (.inr (.inl 0)), some (.inr (.inl 30)), some (.inr (.inl 47)), some (.inl i), some (.inl r216), o6], [.inl r220], n210, D211, s218, p213, c219) _
        have te100 : s218 100 = (s212 100) := f221 100 (by decide)
        have te101 : s218 101 = (s212 101) := f221 101 (by decide)
        have te102 : s218 102 = (s212 102) := f221 102 (by decide)
        have te103 : s218 103 = (s212 103) := f221 103 (by decide)
        have te3001 : s218 3001 = (s212 3001) := f221 3001 (by decide)
        have te3002 : s218 3002 = (s212 3002) := f221 3002 (by decide)
        have te3003 : s218 3003 = (s212 3003) := f221 3003 (by decide)
        have te3004 : s218 3004 = (s212 3004) := f221 3004 (by decide)
        have ht2 : tie s218 := ⟨te100.trans (tc100.trans (ht.1.trans (tc3001.symm.trans te3001.symm))), te101.trans (tc101.trans (ht.2.1.trans (tc3002.symm.trans te3002.symm))), te102.trans (tc102.trans (ht.2.2.1.trans (tc3003.symm.trans te3003.symm))), te103.trans (tc103.trans (ht.2.2.2.trans (tc3004.symm.trans te3004.symm)))⟩
        clear tc100 tc101 tc102 tc103 tc3001 tc3002 tc3003 tc3004 te100 te101 te102 te103 te3001 te3002 te3003 te3004
        refine tt_k 4 (S' := (23, [some (.inr (.inl 1000004)), some (.inr (.inl 0)), some (.inr (.inl 30)), some (.inr (.inl 47)), some (.inl (i + 9)), some (.inl r216), some (.inl r220)], [], n210, D211, s218, p213, c219)) rfl ?_
        exact ih (q + 1) (i + 9) (some (.inl r216)) (some (.inl r220)) (n210, D211, s218, p213, c219) ⟨hS218, hC219, (wp_rg hW224)⟩ ht2 (by omega) (by omega) (by omega) (by omega)
      by_cases h225 : (mi_and (xs (i).toNat) 15) = 11
      · have h226 := h225
        refine tt_tsw (x := (mi_and (xs (i).toNat) 15)) (off := 618) rfl (by omega) (by omega) (by rw [h225]; rfl) rfl ?_
        show tt Zi 12 0 (658, [some (.inr (.inl 1000004)), some (.inr (.inl 0)), some (.inr (.inl 30)), some (.inr (.inl 47)), some (.inl i), o5, o6], [], n, D, s, p, c) _
        refine tt_k 1 (S' := (659, [some (.inr (.inl 1000004)), some (.inr (.inl 0)), some (.inr (.inl 30)), some (.inr (.inl 47)), some (.inl i), o5, o6], [.inr (.inl 0)], n, D, s, p, c)) rfl ?_
        refine tt_cl (by omega) rfl (g_unpack (Zi := Zi) (q := q) (n := n) (D := D) (s := s) (p := p) (c := c) (by omega) hz (by omega) hS hC (wp_rg hW) ) ?_
        rintro _ ⟨n227, D228, s229, p230, c231⟩ ⟨r233, rfl, b234, hY232⟩
        have hS229 : bS s229 := hY232.1
        have hC231 : bC D228 c231 := hY232.2.1
        have hW230 : wp _ _ n227 D228 p230 s229 := hY232.2.2
        show tt Zi 12 0 (662, [some (.inr (.inl 1000004)), some (.inr (.inl 0)), some (.inr (.inl 30)), some (.inr (.inl 47)), some (.inl i), o5, o6], [.inl r233], n227, D228, s229, p230, c231) _
        have tc100 : s229 100 = (s 100) := hW230.gz 100 rfl
        have tc101 : s229 101 = (s 101) := hW230.gz 101 rfl
        have tc102 : s229 102 = (s 102) := hW230.gz 102 rfl
        have tc103 : s229 103 = (s 103) := hW230.gz 103 rfl
        have tc3001 : s229 3001 = (s 3001) := hW230.gz 3001 rfl
        have tc3002 : s229 3002 = (s 3002) := hW230.gz 3002 rfl
        have tc3003 : s229 3003 = (s 3003) := hW230.gz 3003 rfl
        have tc3004 : s229 3004 = (s 3004) := hW230.gz 3004 rfl
        refine tt_k 2 (S' := (664, [some (.inr (.inl 1000004)), some (.inr (.inl 0)), some (.inr (.inl 30)), some (.inr (.inl 47)), some (.inl i), o5, o6], [.inr (.inl 30)], n227, D228, s229, p230, c231)) rfl ?_
        refine tt_cl (by omega) rfl (k_unpack (Zi := Zi) (D := D228) (s := s229) (p := p230) (c := c231) (by omega) hS229 hC231 ) ?_
        rintro _ _ ⟨s235, c236, r237, rfl, rfl, hS235, hC236, f238, g239, b240⟩
        have hW241 := wp_rf f238 (by decide) hW230
        show tt Zi 12 0 (667, [some (.inr (.inl 1000004)), some (.inr (.inl 0)), some (.inr (.inl 30)), some (.inr (.inl 47)), some (.inl i), o5, o6], [.inl r237], n227, D228, s235, p230, c236) _
        have te100 : s235 100 = (s229 100) := f238 100 (by decide)
        have te101 : s235 101 = (s229 101) := f238 101 (by decide)
        have te102 : s235 102 = (s229 102) := f238 102 (by decide)
        have te103 : s235 103 = (s229 103) := f238 103 (by decide)
        have te3001 : s235 3001 = (s229 3001) := f238 3001 (by decide)
        have te3002 : s235 3002 = (s229 3002) := f238 3002 (by decide)
        have te3003 : s235 3003 = (s229 3003) := f238 3003 (by decide)
        have te3004 : s235 3004 = (s229 3004) := f238 3004 (by decide)
        have ht2 : tie s235 := ⟨te100.trans (tc100.trans (ht.1.trans (tc3001.symm.trans te3001.symm))), te101.trans (tc101.trans (ht.2.1.trans (tc3002.symm.trans te3002.symm))), te102.trans (tc102.trans (ht.2.2.1.trans (tc3003.symm.trans te3003.symm))), te103.trans (tc103.trans (ht.2.2.2.trans (tc3004.symm.trans te3004.symm)))⟩
        clear tc100 tc101 tc102 tc103 tc3001 tc3002 tc3003 tc3004 te100 te101 te102 te103 te3001 te3002 te3003 te3004
        refine tt_k 4 (S' := (23, [some (.inr (.inl 1000004)), some (.inr (.inl 0)), some (.inr (.inl 30)), some (.inr (.inl 47)), some (.inl (i + 9)), o5, o6], [], n227, D228, s235, p230, c236)) rfl ?_
        exact ih (q + 1) (i + 9) (o5) (o6) (n227, D228, s235, p230, c236) ⟨hS235, hC236, (wp_rg hW241)⟩ ht2 (by omega) (by omega) (by omega) (by omega)
      by_cases h242 : (mi_and (xs (i).toNat) 15) = 12
      · have h243 := h242
        refine tt_tsw (x := (mi_and (xs (i).toNat) 15)) (off := 631) rfl (by omega) (by omega) (by rw [h242]; rfl) rfl ?_
        show tt Zi 12 0 (671, [some (.inr (.inl 1000004)), some (.inr (.inl 0)), some (.inr (.inl 30)), some (.inr (.inl 47)), some (.inl i), o5, o6], [], n, D, s, p, c) _
        refine tt_k 1 (S' := (672, [some (.inr (.inl 1000004)), some (.inr (.inl 0)), some (.inr (.inl 30)), some (.inr (.inl 47)), some (.inl i), o5, o6], [.inr (.inl 0)], n, D, s, p, c)) rfl ?_
        refine tt_cl (by omega) rfl (g_place (Zi := Zi) (q := q) (n := n) (D := D) (s := s) (p := p) (c := c) (by omega) hz (by omega) hS hC (wp_rg hW) ) ?_
        rintro _ ⟨n244, D245, s246, p247, c248⟩ ⟨r250, rfl, b251, hY249⟩
        have hS246 : bS s246 := hY249.1
        have hC248 : bC D245 c248 := hY249.2.1
        have hW247 : wp _ _ n244 D245 p247 s246 := hY249.2.2
        show tt Zi 12 0 (675, [some (.inr (.inl 1000004)), some (.inr (.inl 0)), some (.inr (.inl 30)), some (.inr (.inl 47)), some (.inl i), o5, o6], [.inl r250], n244, D245, s246, p247, c248) _
        have tc100 : s246 100 = (s 100) := hW247.gz 100 rfl
        have tc101 : s246 101 = (s 101) := hW247.gz 101 rfl
        have tc102 : s246 102 = (s 102) := hW247.gz 102 rfl
        have tc103 : s246 103 = (s 103) := hW247.gz 103 rfl
        have tc3001 : s246 3001 = (s 3001) := hW247.gz 3001 rfl
        have tc3002 : s246 3002 = (s 3002) := hW247.gz 3002 rfl
        have tc3003 : s246 3003 = (s 3003) := hW247.gz 3003 rfl
        have tc3004 : s246 3004 = (s 3004) := hW247.gz 3004 rfl
        refine tt_k 2 (S' := (677, [some (.inr (.inl 1000004)), some (.inr (.inl 0)), some (.inr (.inl 30)), some (.inr (.inl 47)), some (.inl i), o5, o6], [.inr (.inl 30)], n244, D245, s246, p247, c248)) rfl ?_
        refine tt_cl (by omega) rfl (k_place (Zi := Zi) (D := D245) (s := s246) (p := p247) (c := c248) (by omega) hS246 hC248 ) ?_
        rintro _ _ ⟨s252, r253, rfl, rfl, hS252, f254, b255, k256, k257⟩
        have hW258 := wp_rf f254 (by decide) hW247
        show tt Zi 12 0 (680, [some (.inr (.inl 1000004)), some (.inr (.inl 0)), some (.inr (.inl 30)), some (.inr (.inl 47)), some (.inl i), o5, o6], [.inl r253], n244, D245, s252, p247, c248) _
        have te100 : s252 100 = (s246 100) := f254 100 (by decide)
        have te101 : s252 101 = (s246 101) := f254 101 (by decide)
        have te102 : s252 102 = (s246 102) := f254 102 (by decide)
        have te103 : s252 103 = (s246 103) := f254 103 (by decide)
        have te3001 : s252 3001 = (s246 3001) := f254 3001 (by decide)
        have te3002 : s252 3002 = (s246 3002) := f254 3002 (by decide)
        have te3003 : s252 3003 = (s246 3003) := f254 3003 (by decide)
        have te3004 : s252 3004 = (s246 3004) := f254 3004 (by decide)
        have ht2 : tie s252 := ⟨te100.trans (tc100.trans (ht.1.trans (tc3001.symm.trans te3001.symm))), te101.trans (tc101.trans (ht.2.1.trans (tc3002.symm.trans te3002.symm))), te102.trans (tc102.trans (ht.2.2.1.trans (tc3003.symm.trans te3003.symm))), te103.trans (tc103.trans (ht.2.2.2.trans (tc3004.symm.trans te3004.symm)))⟩
        clear tc100 tc101 tc102 tc103 tc3001 tc3002 tc3003 tc3004 te100 te101 te102 te103 te3001 te3002 te3003 te3004
        refine tt_k 4 (S' := (23, [some (.inr (.inl 1000004)), some (.inr (.inl 0)), some (.inr (.inl 30)), some (.inr (.inl 47)), some (.inl (i + 9)), o5, o6], [], n244, D245, s252, p247, c248)) rfl ?_
        exact ih (q + 1) (i + 9) (o5) (o6) (n244, D245, s252, p247, c248) ⟨hS252, hC248, (wp_rg hW258)⟩ ht2 (by omega) (by omega) (by omega) (by omega)
      by_cases h259 : (mi_and (xs (i).toNat) 15) = 13
      · have h260 := h259
        refine tt_tsw (x := (mi_and (xs (i).toNat) 15)) (off := 644) rfl (by omega) (by omega) (by rw [h259]; rfl) rfl ?_
        show tt Zi 12 0 (684, [some (.inr (.inl 1000004)), some (.inr (.inl 0)), some (.inr (.inl 30)), some (.inr (.inl 47)), some (.inl i), o5, o6], [], n, D, s, p, c) _
        refine tt_k 5 (S' := (690, [some (.inr (.inl 1000004)), some (.inr (.inl 0)), some (.inr (.inl 30)), some (.inr (.inl 47)), some (.inl i), o5, o6], [.inl (i + 1), .inr (.inl 1000004), .inr (.inl 0)], n, D, s, p, c)) rfl ?_
        refine tt_stat (j := 4) (i := (i + 1)) rfl hs (by omega) ?_
        show tt Zi 12 0 (691, [some (.inr (.inl 1000004)), some (.inr (.inl 0)), some (.inr (.inl 30)), some (.inr (.inl 47)), some (.inl i), o5, o6], [.inl ((xs ((i + 1)).toNat)), .inr (.inl 0)], n, D, s, p, c) _
        have b261 := hxs ((i + 1)).toNat
        refine tt_k 1 (S' := (692, [some (.inr (.inl 1000004)), some (.inr (.inl 0)), some (.inr (.inl 30)), some (.inr (.inl 47)), some (.inl i), o5, o6], [.inr (.inl 47), .inl ((xs ((i + 1)).toNat)), .inr (.inl 0)], n, D, s, p, c)) rfl ?_
        refine tt_cl (by omega) rfl (h_about (Zi := Zi) (q := q) (n := n) (D := D) (s := s) (p := p) (c := c) (by omega) hz (by omega) hS hC (wp_rg hW) ((xs ((i + 1)).toNat)) (by omega)) ?_
        rintro _ ⟨n262, D263, s264, p265, c266⟩ ⟨r268, rfl, b269, hY267⟩
        have hS264 : bS s264 := hY267.1
        have hC266 : bC D263 c266 := hY267.2.1
        have hW265 : wp _ _ n262 D263 p265 s264 := hY267.2.2
        show tt Zi 12 0 (695, [some (.inr (.inl 1000004)), some (.inr (.inl 0)), some (.inr (.inl 30)), some (.inr (.inl 47)), some (.inl i), o5, o6], [.inl r268], n262, D263, s264, p265, c266) _
        have tc100 : s264 100 = (s 100) := hW265.gz 100 rfl
        have tc101 : s264 101 = (s 101) := hW265.gz 101 rfl
        have tc102 : s264 102 = (s 102) := hW265.gz 102 rfl
        have tc103 : s264 103 = (s 103) := hW265.gz 103 rfl
        have tc3001 : s264 3001 = (s 3001) := hW265.gz 3001 rfl
        have tc3002 : s264 3002 = (s 3002) := hW265.gz 3002 rfl
        have tc3003 : s264 3003 = (s 3003) := hW265.gz 3003 rfl
        have tc3004 : s264 3004 = (s 3004) := hW265.gz 3004 rfl
        refine tt_k 6 (S' := (703, [some (.inr (.inl 1000004)), some (.inr (.inl 0)), some (.inr (.inl 30)), some (.inr (.inl 47)), some (.inl i), some (.inl r268), o6], [.inl (i + 1), .inr (.inl 1000004), .inr (.inl 30)], n262, D263, s264, p265, c266)) rfl ?_
        refine tt_stat (j := 4) (i := (i + 1)) rfl hs (by omega) ?_
        show tt Zi 12 0 (704, [some (.inr (.inl 1000004)), some (.inr (.inl 0)), some (.inr (.inl 30)), some (.inr (.inl 47)), some (.inl i), some (.inl r268), o6], [.inl ((xs ((i + 1)).toNat)), .inr (.inl 30)], n262, D263, s264, p265, c266) _
        refine tt_cl (by omega) rfl (k_about (Zi := Zi) (D := D263) (s := s264) (p := p265) (c := c266) (by omega) hS264 hC266 ((xs ((i + 1)).toNat)) (by omega)) ?_
        rintro _ _ ⟨s270, r271, rfl, rfl, hS270, f272, b273⟩
        have hW274 := wp_rf f272 (by decide) hW265
        show tt Zi 12 0 (707, [some (.inr (.inl 1000004)), some (.inr (.inl 0)), some (.inr (.inl 30)), some (.inr (.inl 47)), some (.inl i), some (.inl r268), o6], [.inl r271], n262, D263, s270, p265, c266) _
        have te100 : s270 100 = (s264 100) := f272 100 (by decide)
        have te101 : s270 101 = (s264 101) := f272 101 (by decide)
        have te102 : s270 102 = (s264 102) := f272 102 (by decide)
        have te103 : s270 103 = (s264 103) := f272 103 (by decide)
        have te3001 : s270 3001 = (s264 3001) := f272 3001 (by decide)
        have te3002 : s270 3002 = (s264 3002) := f272 3002 (by decide)
        have te3003 : s270 3003 = (s264 3003) := f272 3003 (by decide)
        have te3004 : s270 3004 = (s264 3004) := f272 3004 (by decide)
        have ht2 : tie s270 := ⟨te100.trans (tc100.trans (ht.1.trans (tc3001.symm.trans te3001.symm))), te101.trans (tc101.trans (ht.2.1.trans (tc3002.symm.trans te3002.symm))), te102.trans (tc102.trans (ht.2.2.1.trans (tc3003.symm.trans te3003.symm))), te103.trans (tc103.trans (ht.2.2.2.trans (tc3004.symm.trans te3004.symm)))⟩
        clear tc100 tc101 tc102 tc103 tc3001 tc3002 tc3003 tc3004 te100 te101 te102 te103 te3001 te3002 te3003 te3004
        refine tt_k 4 (S' := (23, [some (.inr (.inl 1000004)), some (.inr (.inl 0)), some (.inr (.inl 30)), some (.inr (.inl 47)), some (.inl (i + 9)), some (.inl r268), some (.inl r271)], [], n262, D263, s270, p265, c266)) rfl ?_
        exact ih (q + 1) (i + 9) (some (.inl r268)) (some (.inl r271)) (n262, D263, s270, p265, c266) ⟨hS270, hC266, (wp_rg hW274)⟩ ht2 (by omega) (by omega) (by omega) (by omega)
      by_cases h275 : (mi_and (xs (i).toNat) 15) = 14
      · have h276 := h275
        refine tt_tsw (x := (mi_and (xs (i).toNat) 15)) (off := 672) rfl (by omega) (by omega) (by rw [h275]; rfl) rfl ?_
        show tt Zi 12 0 (712, [some (.inr (.inl 1000004)), some (.inr (.inl 0)), some (.inr (.inl 30)), some (.inr (.inl 47)), some (.inl i), o5, o6], [], n, D, s, p, c) _
        refine tt_k 5 (S' := (718, [some (.inr (.inl 1000004)), some (.inr (.inl 0)), some (.inr (.inl 30)), some (.inr (.inl 47)), some (.inl i), o5, o6], [.inl (i + 1), .inr (.inl 1000004), .inr (.inl 0)], n, D, s, p, c)) rfl ?_
        refine tt_stat (j := 4) (i := (i + 1)) rfl hs (by omega) ?_
        show tt Zi 12 0 (719, [some (.inr (.inl 1000004)), some (.inr (.inl 0)), some (.inr (.inl 30)), some (.inr (.inl 47)), some (.inl i), o5, o6], [.inl ((xs ((i + 1)).toNat)), .inr (.inl 0)], n, D, s, p, c) _
        have b277 := hxs ((i + 1)).toNat
        refine tt_k 4 (S' := (724, [some (.inr (.inl 1000004)), some (.inr (.inl 0)), some (.inr (.inl 30)), some (.inr (.inl 47)), some (.inl i), o5, o6], [.inl (i + 2), .inr (.inl 1000004), .inl ((xs ((i + 1)).toNat)), .inr (.inl 0)], n, D, s, p, c)) rfl ?_
        refine tt_stat (j := 4) (i := (i + 2)) rfl hs (by omega) ?_
        show tt Zi 12 0 (725, [some (.inr (.inl 1000004)), some (.inr (.inl 0)), some (.inr (.inl 30)), some (.inr (.inl 47)), some (.inl i), o5, o6], [.inl ((xs ((i + 2)).toNat)), .inl ((xs ((i + 1)).toNat)), .inr (.inl 0)], n, D, s, p, c) _
        have b278 := hxs ((i + 2)).toNat
        refine tt_k 4 (S' := (730, [some (.inr (.inl 1000004)), some (.inr (.inl 0)), some (.inr (.inl 30)), some (.inr (.inl 47)), some (.inl i), o5, o6], [.inl (i + 3), .inr (.inl 1000004), .inl ((xs ((i + 2)).toNat)), .inl ((xs ((i + 1)).toNat)), .inr (.inl 0)], n, D, s, p, c)) rfl ?_
        refine tt_stat (j := 4) (i := (i + 3)) rfl hs (by omega) ?_
        show tt Zi 12 0 (731, [some (.inr (.inl 1000004)), some (.inr (.inl 0)), some (.inr (.inl 30)), some (.inr (.inl 47)), some (.inl i), o5, o6], [.inl ((xs ((i + 3)).toNat)), .inl ((xs ((i + 2)).toNat)), .inl ((xs ((i + 1)).toNat)), .inr (.inl 0)], n, D, s, p, c) _
        have b279 := hxs ((i + 3)).toNat
        refine tt_k 1 (S' := (732, [some (.inr (.inl 1000004)), some (.inr (.inl 0)), some (.inr (.inl 30)), some (.inr (.inl 47)), some (.inl i), o5, o6], [.inr (.inl 47), .inl ((xs ((i + 3)).toNat)), .inl ((xs ((i + 2)).toNat)), .inl ((xs ((i + 1)).toNat)), .inr (.inl 0)], n, D, s, p, c)) rfl ?_
        refine tt_cl (by omega) rfl (h_sample (Zi := Zi) (q := q) (n := n) (D := D) (s := s) (p := p) (c := c) (by omega) hz (by omega) hS hC (wp_rg hW) ((xs ((i + 1)).toNat)) ((xs ((i + 2)).toNat)) ((xs ((i + 3)).toNat)) (by omega) (by omega) (by omega)) ?_
        rintro _ ⟨n280, D281, s282, p283, c284⟩ ⟨r286, rfl, b287, hY285⟩
        have hS282 : bS s282 := hY285.1
        have hC284 : bC D281 c284 := hY285.2.1
        have hW283 : wp _ _ n280 D281 p283 s282 := hY285.2.2
        show tt Zi 12 0 (735, [some (.inr (.inl 1000004)), some (.inr (.inl 0)), some (.inr (.inl 30)), some (.inr (.inl 47)), some (.inl i), o5, o6], [.inl r286], n280, D281, s282, p283, c284) _
        have tc100 : s282 100 = (s 100) := hW283.gz 100 rfl
        have tc101 : s282 101 = (s 101) := hW283.gz 101 rfl
        have tc102 : s282 102 = (s 102) := hW283.gz 102 rfl
        have tc103 : s282 103 = (s 103) := hW283.gz 103 rfl
        have tc3001 : s282 3001 = (s 3001) := hW283.gz 3001 rfl
        have tc3002 : s282 3002 = (s 3002) := hW283.gz 3002 rfl
        have tc3003 : s282 3003 = (s 3003) := hW283.gz 3003 rfl
        have tc3004 : s282 3004 = (s 3004) := hW283.gz 3004 rfl
        refine tt_k 6 (S' := (743, [some (.inr (.inl 1000004)), some (.inr (.inl 0)), some (.inr (.inl 30)), some (.inr (.inl 47)), some (.inl i), some (.inl r286), o6], [.inl (i + 1), .inr (.inl 1000004), .inr (.inl 30)], n280, D281, s282, p283, c284)) rfl ?_
        refine tt_stat (j := 4) (i := (i + 1)) rfl hs (by omega) ?_
        show tt Zi 12 0 (744, [some (.inr (.inl 1000004)), some (.inr (.inl 0)), some (.inr (.inl 30)), some (.inr (.inl 47)), some (.inl i), some (.inl r286), o6], [.inl ((xs ((i + 1)).toNat)), .inr (.inl 30)], n280, D281, s282, p283, c284) _
        refine tt_k 4 (S' := (749, [some (.inr (.inl 1000004)), some (.inr (.inl 0)), some (.inr (.inl 30)), some (.inr (.inl 47)), some (.inl i), some (.inl r286), o6], [.inl (i + 2), .inr (.inl 1000004), .inl ((xs ((i + 1)).toNat)), .inr (.inl 30)], n280, D281, s282, p283, c284)) rfl ?_
        refine tt_stat (j := 4) (i := (i + 2)) rfl hs (by omega) ?_
        show tt Zi 12 0 (750, [some (.inr (.inl 1000004)), some (.inr (.inl 0)), some (.inr (.inl 30)), some (.inr (.inl 47)), some (.inl i), some (.inl r286), o6], [.inl ((xs ((i + 2)).toNat)), .inl ((xs ((i + 1)).toNat)), .inr (.inl 30)], n280, D281, s282, p283, c284) _
        refine tt_k 4 (S' := (755, [some (.inr (.inl 1000004)), some (.inr (.inl 0)), some (.inr (.inl 30)), some (.inr (.inl 47)), some (.inl i), some (.inl r286), o6], [.inl (i + 3), .inr (.inl 1000004), .inl ((xs ((i + 2)).toNat)), .inl ((xs ((i + 1)).toNat)), .inr (.inl 30)], n280, D281, s282, p283, c284)) rfl ?_
        refine tt_stat (j := 4) (i := (i + 3)) rfl hs (by omega) ?_
        show tt Zi 12 0 (756, [some (.inr (.inl 1000004)), some (.inr (.inl 0)), some (.inr (.inl 30)), some (.inr (.inl 47)), some (.inl i), some (.inl r286), o6], [.inl ((xs ((i + 3)).toNat)), .inl ((xs ((i + 2)).toNat)), .inl ((xs ((i + 1)).toNat)), .inr (.inl 30)], n280, D281, s282, p283, c284) _
        refine tt_cl (by omega) rfl (k_sample (Zi := Zi) (D := D281) (s := s282) (p := p283) (c := c284) (by omega) hS282 hC284 ((xs ((i + 1)).toNat)) ((xs ((i + 2)).toNat)) ((xs ((i + 3)).toNat)) (by omega) (by omega) (by omega)) ?_
        rintro _ _ ⟨s288, r289, rfl, rfl, hS288, f290, b291⟩
        have hW292 := wp_rf f290 (by decide) hW283
        show tt Zi 12 0 (759, [some (.inr (.inl 1000004)), some (.inr (.inl 0)), some (.inr (.inl 30)), some (.inr (.inl 47)), some (.inl i), some (.inl r286), o6], [.inl r289], n280, D281, s288, p283, c284) _
        have te100 : s288 100 = (s282 100) := f290 100 (by decide)
        have te101 : s288 101 = (s282 101) := f290 101 (by decide)
        have te102 : s288 102 = (s282 102) := f290 102 (by decide)
        have te103 : s288 103 = (s282 103) := f290 103 (by decide)
        have te3001 : s288 3001 = (s282 3001) := f290 3001 (by decide)
        have te3002 : s288 3002 = (s282 3002) := f290 3002 (by decide)
        have te3003 : s288 3003 = (s282 3003) := f290 3003 (by decide)
        have te3004 : s288 3004 = (s282 3004) := f290 3004 (by decide)
        have ht2 : tie s288 := ⟨te100.trans (tc100.trans (ht.1.trans (tc3001.symm.trans te3001.symm))), te101.trans (tc101.trans (ht.2.1.trans (tc3002.symm.trans te3002.symm))), te102.trans (tc102.trans (ht.2.2.1.trans (tc3003.symm.trans te3003.symm))), te103.trans (tc103.trans (ht.2.2.2.trans (tc3004.symm.trans te3004.symm)))⟩
        clear tc100 tc101 tc102 tc103 tc3001 tc3002 tc3003 tc3004 te100 te101 te102 te103 te3001 te3002 te3003 te3004
        refine tt_k 4 (S' := (23, [some (.inr (.inl 1000004)), some (.inr (.inl 0)), some (.inr (.inl 30)), some (.inr (.inl 47)), some (.inl (i + 9)), some (.inl r286), some (.inl r289)], [], n280, D281, s288, p283, c284)) rfl ?_
        exact ih (q + 1) (i + 9) (some (.inl r286)) (some (.inl r289)) (n280, D281, s288, p283, c284) ⟨hS288, hC284, (wp_rg hW292)⟩ ht2 (by omega) (by omega) (by omega) (by omega)
      by_cases h293 : (mi_and (xs (i).toNat) 15) = 15
      · have h294 := h293
        refine tt_tsw (x := (mi_and (xs (i).toNat) 15)) (off := 724) rfl (by omega) (by omega) (by rw [h293]; rfl) rfl ?_
        show tt Zi 12 0 (764, [some (.inr (.inl 1000004)), some (.inr (.inl 0)), some (.inr (.inl 30)), some (.inr (.inl 47)), some (.inl i), o5, o6], [], n, D, s, p, c) _
        refine tt_k 5 (S' := (770, [some (.inr (.inl 1000004)), some (.inr (.inl 0)), some (.inr (.inl 30)), some (.inr (.inl 47)), some (.inl i), o5, o6], [.inl (i + 1), .inr (.inl 1000004), .inr (.inl 0)], n, D, s, p, c)) rfl ?_
        refine tt_stat (j := 4) (i := (i + 1)) rfl hs (by omega) ?_
        show tt Zi 12 0 (771, [some (.inr (.inl 1000004)), some (.inr (.inl 0)), some (.inr (.inl 30)), some (.inr (.inl 47)), some (.inl i), o5, o6], [.inl ((xs ((i + 1)).toNat)), .inr (.inl 0)], n, D, s, p, c) _
        have b295 := hxs ((i + 1)).toNat
        refine tt_k 4 (S' := (776, [some (.inr (.inl 1000004)), some (.inr (.inl 0)), some (.inr (.inl 30)), some (.inr (.inl 47)), some (.inl i), o5, o6], [.inl (i + 2), .inr (.inl 1000004), .inl ((xs ((i + 1)).toNat)), .inr (.inl 0)], n, D, s, p, c)) rfl ?_
        refine tt_stat (j := 4) (i := (i + 2)) rfl hs (by omega) ?_
        show tt Zi 12 0 (777, [some (.inr (.inl 1000004)), some (.inr (.inl 0)), some (.inr (.inl 30)), some (.inr (.inl 47)), some (.inl i), o5, o6], [.inl ((xs ((i + 2)).toNat)), .inl ((xs ((i + 1)).toNat)), .inr (.inl 0)], n, D, s, p, c) _
        have b296 := hxs ((i + 2)).toNat
        refine tt_k 1 (S' := (778, [some (.inr (.inl 1000004)), some (.inr (.inl 0)), some (.inr (.inl 30)), some (.inr (.inl 47)), some (.inl i), o5, o6], [.inr (.inl 47), .inl ((xs ((i + 2)).toNat)), .inl ((xs ((i + 1)).toNat)), .inr (.inl 0)], n, D, s, p, c)) rfl ?_
        refine tt_cl (by omega) rfl (h_learned (Zi := Zi) (q := q) (n := n) (D := D) (s := s) (p := p) (c := c) (by omega) hz (by omega) hS hC (wp_rg hW) ((xs ((i + 1)).toNat)) ((xs ((i + 2)).toNat)) (by omega) (by omega)) ?_
        rintro _ ⟨n297, D298, s299, p300, c301⟩ ⟨r303, rfl, b304, hY302⟩
        have hS299 : bS s299 := hY302.1
        have hC301 : bC D298 c301 := hY302.2.1
        have hW300 : wp _ _ n297 D298 p300 s299 := hY302.2.2
        show tt Zi 12 0 (781, [some (.inr (.inl 1000004)), some (.inr (.inl 0)), some (.inr (.inl 30)), some (.inr (.inl 47)), some (.inl i), o5, o6], [.inl r303], n297, D298, s299, p300, c301) _
        have tc100 : s299 100 = (s 100) := hW300.gz 100 rfl
        have tc101 : s299 101 = (s 101) := hW300.gz 101 rfl
        have tc102 : s299 102 = (s 102) := hW300.gz 102 rfl
        have tc103 : s299 103 = (s 103) := hW300.gz 103 rfl
        have tc3001 : s299 3001 = (s 3001) := hW300.gz 3001 rfl
        have tc3002 : s299 3002 = (s 3002) := hW300.gz 3002 rfl
        have tc3003 : s299 3003 = (s 3003) := hW300.gz 3003 rfl
        have tc3004 : s299 3004 = (s 3004) := hW300.gz 3004 rfl
        refine tt_k 6 (S' := (789, [some (.inr (.inl 1000004)), some (.inr (.inl 0)), some (.inr (.inl 30)), some (.inr (.inl 47)), some (.inl i), some (.inl r303), o6], [.inl (i + 1), .inr (.inl 1000004), .inr (.inl 30)], n297, D298, s299, p300, c301)) rfl ?_
        refine tt_stat (j := 4) (i := (i + 1)) rfl hs (by omega) ?_
        show tt Zi 12 0 (790, [some (.inr (.inl 1000004)), some (.inr (.inl 0)), some (.inr (.inl 30)), some (.inr (.inl 47)), some (.inl i), some (.inl r303), o6], [.inl ((xs ((i + 1)).toNat)), .inr (.inl 30)], n297, D298, s299, p300, c301) _
        refine tt_k 4 (S' := (795, [some (.inr (.inl 1000004)), some (.inr (.inl 0)), some (.inr (.inl 30)), some (.inr (.inl 47)), some (.inl i), some (.inl r303), o6], [.inl (i + 2), .inr (.inl 1000004), .inl ((xs ((i + 1)).toNat)), .inr (.inl 30)], n297, D298, s299, p300, c301)) rfl ?_
        refine tt_stat (j := 4) (i := (i + 2)) rfl hs (by omega) ?_
        show tt Zi 12 0 (796, [some (.inr (.inl 1000004)), some (.inr (.inl 0)), some (.inr (.inl 30)), some (.inr (.inl 47)), some (.inl i), some (.inl r303), o6], [.inl ((xs ((i + 2)).toNat)), .inl ((xs ((i + 1)).toNat)), .inr (.inl 30)], n297, D298, s299, p300, c301) _
        refine tt_cl (by omega) rfl (k_learned (Zi := Zi) (D := D298) (s := s299) (p := p300) (c := c301) (by omega) hS299 hC301 ((xs ((i + 1)).toNat)) ((xs ((i + 2)).toNat)) (by omega) (by omega)) ?_
        rintro _ _ ⟨s305, r306, rfl, rfl, hS305, f307, b308⟩
        have hW309 := wp_rf f307 (by decide) hW300
        show tt Zi 12 0 (799, [some (.inr (.inl 1000004)), some (.inr (.inl 0)), some (.inr (.inl 30)), some (.inr (.inl 47)), some (.inl i), some (.inl r303), o6], [.inl r306], n297, D298, s305, p300, c301) _
        have te100 : s305 100 = (s299 100) := f307 100 (by decide)
        have te101 : s305 101 = (s299 101) := f307 101 (by decide)
        have te102 : s305 102 = (s299 102) := f307 102 (by decide)
        have te103 : s305 103 = (s299 103) := f307 103 (by decide)
        have te3001 : s305 3001 = (s299 3001) := f307 3001 (by decide)
        have te3002 : s305 3002 = (s299 3002) := f307 3002 (by decide)
        have te3003 : s305 3003 = (s299 3003) := f307 3003 (by decide)
        have te3004 : s305 3004 = (s299 3004) := f307 3004 (by decide)
        have ht2 : tie s305 := ⟨te100.trans (tc100.trans (ht.1.trans (tc3001.symm.trans te3001.symm))), te101.trans (tc101.trans (ht.2.1.trans (tc3002.symm.trans te3002.symm))), te102.trans (tc102.trans (ht.2.2.1.trans (tc3003.symm.trans te3003.symm))), te103.trans (tc103.trans (ht.2.2.2.trans (tc3004.symm.trans te3004.symm)))⟩
        clear tc100 tc101 tc102 tc103 tc3001 tc3002 tc3003 tc3004 te100 te101 te102 te103 te3001 te3002 te3003 te3004
        refine tt_k 4 (S' := (23, [some (.inr (.inl 1000004)), some (.inr (.inl 0)), some (.inr (.inl 30)), some (.inr (.inl 47)), some (.inl (i + 9)), some (.inl r303), some (.inl r306)], [], n297, D298, s305, p300, c301)) rfl ?_
        exact ih (q + 1) (i + 9) (some (.inl r303)) (some (.inl r306)) (n297, D298, s305, p300, c301) ⟨hS305, hC301, (wp_rg hW309)⟩ ht2 (by omega) (by omega) (by omega) (by omega)
      refine tt_tsd (x := (mi_and (xs (i).toNat) 15)) rfl (by omega) (by omega) rfl ?_
      show tt Zi 12 0 (804, [some (.inr (.inl 1000004)), some (.inr (.inl 0)), some (.inr (.inl 30)), some (.inr (.inl 47)), some (.inl i), o5, o6], [], n, D, s, p, c) _
      refine tt_k 2 (S' := (23, [some (.inr (.inl 1000004)), some (.inr (.inl 0)), some (.inr (.inl 30)), some (.inr (.inl 47)), some (.inl (i + 9)), o5, o6], [], n, D, s, p, c)) rfl ?_
      exact ih q (i + 9) (o5) (o6) (n, D, s, p, c) ⟨hS, hC, (wp_rg hW)⟩ ht (by omega) (by omega) (by omega) (by omega)
