/-! the law's loop -/
def cV (q : Nat) (H : mi_H) : Prop := bS H.2.2.1 ∧ bC H.2.1 H.2.2.2.2 ∧ wp q H.2.2.1 H.1 H.2.1 H.2.2.2.1 H.2.2.1 ∧ wd H.1 H.2.2.2.1
def tie (s : Nat → Int) : Prop := s 100 = s 3001 ∧ s 101 = s 3002 ∧ s 102 = s 3003 ∧ s 103 = s 3004
def lawQ : mi_Rs → mi_H → Prop := fun R H => R = .inl (some (.inl 1)) ∧ ∃ g, cW 520 g H
set_option maxRecDepth 100000 in
set_option maxHeartbeats 8000000 in
theorem law_L {Zi : Nat → Option (Nat × (Nat → Int))} {L : Nat} {xs : Nat → Int} (hz : zk Zi) (hs : Zi 4 = some (L, xs)) (hxs : ∀ i, -2147483648 ≤ xs i ∧ xs i ≤ 2147483647) (hL : L ≤ 4608) : ∀ (m q : Nat) (i : Int) (o5 o6 : Option mi_V) (H : mi_H), cV q H → tie H.2.2.1 → tiS H.2.2.1 H.2.2.2.1 H.2.2.2.2 → tiQ H.2.2.1 H.2.2.2.1 H.2.2.2.2 → 0 ≤ i → 9 * (q : Int) ≤ i → i ≤ 4617 → (4700 - i).toNat < m → tt Zi 12 0 (23, [some (.inr (.inl 1000004)), some (.inr (.inl 0)), some (.inr (.inl 30)), some (.inr (.inl 47)), some (.inl i), o5, o6], [], H) lawQ := by
  intro m
  induction m with
  | zero => intro q i o5 o6 H _ _ _ _ _ _ _ h; exact absurd h (by omega)
  | succ m ih =>
    intro q i o5 o6 H hH ht tS hQ hi0 hq hi1 hm
    obtain ⟨n, D, s, p, c⟩ := H
    have hS : bS s := hH.1
    have hC : bC D c := hH.2.1
    have hW : wp q s n D p s := hH.2.2.1
    have hD : wd n p := hH.2.2.2
    have tS : tiS s p c := tS
    have hQ : tiQ s p c := hQ
    obtain ⟨E, hcE, hrE⟩ := tS
    obtain ⟨KK, hK1, hK2⟩ := hQ.2.2.2.2.2.2
    have ht : tie s := ht
    unfold tie at ht
    have hd : 12 ≤ 12 := Nat.le_refl 12
    refine tt_k 2 (S' := (26, [some (.inr (.inl 1000004)), some (.inr (.inl 0)), some (.inr (.inl 30)), some (.inr (.inl 47)), some (.inl i), o5, o6], [.inr (.inl 1000004), .inl i], n, D, s, p, c)) rfl ?_
    refine tt_lno (j := 4) rfl hs ?_
    show tt Zi 12 0 (27, [some (.inr (.inl 1000004)), some (.inr (.inl 0)), some (.inr (.inl 30)), some (.inr (.inl 47)), some (.inl i), o5, o6], [.inl (L : Int), .inl i], n, D, s, p, c) _
    refine tt_k 2 (S' := (30, [some (.inr (.inl 1000004)), some (.inr (.inl 0)), some (.inr (.inl 30)), some (.inr (.inl 47)), some (.inl i), o5, o6], [.inl ((L : Int) - 9), .inl i], n, D, s, p, c)) rfl ?_
    refine tb_gt (x := i) (y := ((L : Int) - 9)) rfl rfl (by omega) (fun h1 => ?_) (fun h1 => ?_)
    · show tt Zi 12 0 (827, [some (.inr (.inl 1000004)), some (.inr (.inl 0)), some (.inr (.inl 30)), some (.inr (.inl 47)), some (.inl i), o5, o6], [], n, D, s, p, c) _
      refine tt_k 1 (S' := (828, [some (.inr (.inl 1000004)), some (.inr (.inl 0)), some (.inr (.inl 30)), some (.inr (.inl 47)), some (.inl i), o5, o6], [.inl 1], n, D, s, p, c)) rfl ?_
      exact tt_rtb rfl rfl (by omega) ⟨rfl, _, cW_mono (q := q) ⟨hS, hC, hW⟩ (by omega)⟩
    · show tt Zi 12 0 (33, [some (.inr (.inl 1000004)), some (.inr (.inl 0)), some (.inr (.inl 30)), some (.inr (.inl 47)), some (.inl i), o5, o6], [], n, D, s, p, c) _
      refine tt_k 2 (S' := (36, [some (.inr (.inl 1000004)), some (.inr (.inl 0)), some (.inr (.inl 30)), some (.inr (.inl 47)), some (.inl i), o5, o6], [.inl i, .inr (.inl 1000004)], n, D, s, p, c)) rfl ?_
      refine tt_stat (j := 4) (i := i) rfl hs (by omega) ?_
      show tt Zi 12 0 (37, [some (.inr (.inl 1000004)), some (.inr (.inl 0)), some (.inr (.inl 30)), some (.inr (.inl 47)), some (.inl i), o5, o6], [.inl (xs (i).toNat)], n, D, s, p, c) _
      have b2 := hxs (i).toNat
      refine tt_k 2 (S' := (40, [some (.inr (.inl 1000004)), some (.inr (.inl 0)), some (.inr (.inl 30)), some (.inr (.inl 47)), some (.inl i), o5, o6], [.inl ((mi_and (xs (i).toNat) 15))], n, D, s, p, c)) rfl ?_
      have e3 := mi_and15 (xs (i).toNat)
      by_cases h4 : (mi_and (xs (i).toNat) 15) = 0
      · have h5 := h4
        refine tt_tsw (x := (mi_and (xs (i).toNat) 15)) (off := 80) rfl (by omega) (by omega) (by rw [h4]; rfl) rfl ?_
        show tt Zi 12 0 (120, [some (.inr (.inl 1000004)), some (.inr (.inl 0)), some (.inr (.inl 30)), some (.inr (.inl 47)), some (.inl i), o5, o6], [], n, D, s, p, c) _
        refine tt_k 5 (S' := (126, [some (.inr (.inl 1000004)), some (.inr (.inl 0)), some (.inr (.inl 30)), some (.inr (.inl 47)), some (.inl i), o5, o6], [.inl (i + 1), .inr (.inl 1000004), .inr (.inl 0)], n, D, s, p, c)) rfl ?_
        refine tt_stat (j := 4) (i := (i + 1)) rfl hs (by omega) ?_
        show tt Zi 12 0 (127, [some (.inr (.inl 1000004)), some (.inr (.inl 0)), some (.inr (.inl 30)), some (.inr (.inl 47)), some (.inl i), o5, o6], [.inl ((xs ((i + 1)).toNat)), .inr (.inl 0)], n, D, s, p, c) _
        have b6 := hxs ((i + 1)).toNat
        refine tt_k 4 (S' := (132, [some (.inr (.inl 1000004)), some (.inr (.inl 0)), some (.inr (.inl 30)), some (.inr (.inl 47)), some (.inl i), o5, o6], [.inl (i + 2), .inr (.inl 1000004), .inl ((xs ((i + 1)).toNat)), .inr (.inl 0)], n, D, s, p, c)) rfl ?_
        refine tt_stat (j := 4) (i := (i + 2)) rfl hs (by omega) ?_
        show tt Zi 12 0 (133, [some (.inr (.inl 1000004)), some (.inr (.inl 0)), some (.inr (.inl 30)), some (.inr (.inl 47)), some (.inl i), o5, o6], [.inl ((xs ((i + 2)).toNat)), .inl ((xs ((i + 1)).toNat)), .inr (.inl 0)], n, D, s, p, c) _
        have b7 := hxs ((i + 2)).toNat
        refine tt_k 4 (S' := (138, [some (.inr (.inl 1000004)), some (.inr (.inl 0)), some (.inr (.inl 30)), some (.inr (.inl 47)), some (.inl i), o5, o6], [.inl (i + 3), .inr (.inl 1000004), .inl ((xs ((i + 2)).toNat)), .inl ((xs ((i + 1)).toNat)), .inr (.inl 0)], n, D, s, p, c)) rfl ?_
        refine tt_stat (j := 4) (i := (i + 3)) rfl hs (by omega) ?_
        show tt Zi 12 0 (139, [some (.inr (.inl 1000004)), some (.inr (.inl 0)), some (.inr (.inl 30)), some (.inr (.inl 47)), some (.inl i), o5, o6], [.inl ((xs ((i + 3)).toNat)), .inl ((xs ((i + 2)).toNat)), .inl ((xs ((i + 1)).toNat)), .inr (.inl 0)], n, D, s, p, c) _
        have b8 := hxs ((i + 3)).toNat
        refine tt_k 4 (S' := (144, [some (.inr (.inl 1000004)), some (.inr (.inl 0)), some (.inr (.inl 30)), some (.inr (.inl 47)), some (.inl i), o5, o6], [.inl (i + 4), .inr (.inl 1000004), .inl ((xs ((i + 3)).toNat)), .inl ((xs ((i + 2)).toNat)), .inl ((xs ((i + 1)).toNat)), .inr (.inl 0)], n, D, s, p, c)) rfl ?_
        refine tt_stat (j := 4) (i := (i + 4)) rfl hs (by omega) ?_
        show tt Zi 12 0 (145, [some (.inr (.inl 1000004)), some (.inr (.inl 0)), some (.inr (.inl 30)), some (.inr (.inl 47)), some (.inl i), o5, o6], [.inl ((xs ((i + 4)).toNat)), .inl ((xs ((i + 3)).toNat)), .inl ((xs ((i + 2)).toNat)), .inl ((xs ((i + 1)).toNat)), .inr (.inl 0)], n, D, s, p, c) _
        have b9 := hxs ((i + 4)).toNat
        refine tt_cl (by omega) rfl (h_canvas (Zi := Zi) (q := q) (n := n) (D := D) (s := s) (p := p) (c := c) (by omega) hz (by omega) hD hS hC (wp_rg hW) ((xs ((i + 1)).toNat)) ((xs ((i + 2)).toNat)) ((xs ((i + 3)).toNat)) ((xs ((i + 4)).toNat)) (by omega) (by omega) (by omega) (by omega)) ?_
        rintro _ ⟨n10, D11, s12, p13, c14⟩ ⟨r16, rfl, b17, hY15, k18, k19, k20, k21⟩
        have p8c : p13 8 = p 8 := (hY15).2
        have hS12 : bS s12 := (hY15).1.1
        have hC14 : bC D11 c14 := (hY15).1.2.1
        have hW13 : wp _ _ n10 D11 p13 s12 := (hY15).1.2.2.1
        have FKc : fk p c n10 p13 c14 [3, 104] := (hY15).1.2.2.2.1
        have FFc : fr s s12 [100, 101, 102, 103, 800, 801, 802, 803, 804, 805, 806, 807, 808, 809] := (hY15).1.2.2.2.2
        replace k18 : (r16 = 0 ∧ (1 ≤ ((xs ((i + 1)).toNat)) ∧ ((xs ((i + 1)).toNat)) ≤ 64) ∧ (1 ≤ ((xs ((i + 2)).toNat)) ∧ ((xs ((i + 2)).toNat)) ≤ 64) ∧ (((xs ((i + 3)).toNat)) = 1 ∨ ((xs ((i + 3)).toNat)) = 3) ∧ (2 ≤ ((xs ((i + 4)).toNat)) ∧ ((xs ((i + 4)).toNat)) ≤ 16)) ∨ (r16 = 1 ∧ ¬ ((1 ≤ ((xs ((i + 1)).toNat)) ∧ ((xs ((i + 1)).toNat)) ≤ 64) ∧ (1 ≤ ((xs ((i + 2)).toNat)) ∧ ((xs ((i + 2)).toNat)) ≤ 64) ∧ (((xs ((i + 3)).toNat)) = 1 ∨ ((xs ((i + 3)).toNat)) = 3) ∧ (2 ≤ ((xs ((i + 4)).toNat)) ∧ ((xs ((i + 4)).toNat)) ≤ 16))) := k18
        replace k21 : r16 ≠ 0 → fk p c n10 p13 c14 [] := k21
        show tt Zi 12 0 (148, [some (.inr (.inl 1000004)), some (.inr (.inl 0)), some (.inr (.inl 30)), some (.inr (.inl 47)), some (.inl i), o5, o6], [.inl r16], n10, D11, s12, p13, c14) _
        have tc100 : s12 100 = if r16 = 0 then (xs ((i + 1)).toNat) else (s 100) := gz_if (hW13.gz 100 rfl)
        have tc101 : s12 101 = if r16 = 0 then (xs ((i + 2)).toNat) else (s 101) := gz_if (hW13.gz 101 rfl)
        have tc102 : s12 102 = if r16 = 0 then (xs ((i + 3)).toNat) else (s 102) := gz_if (hW13.gz 102 rfl)
        have tc103 : s12 103 = if r16 = 0 then (xs ((i + 4)).toNat) else (s 103) := gz_if (hW13.gz 103 rfl)
        have tc3001 : s12 3001 = (s 3001) := gz_is (hW13.gz 3001 rfl) rfl
        have tc3002 : s12 3002 = (s 3002) := gz_is (hW13.gz 3002 rfl) rfl
        have tc3003 : s12 3003 = (s 3003) := gz_is (hW13.gz 3003 rfl) rfl
        have tc3004 : s12 3004 = (s 3004) := gz_is (hW13.gz 3004 rfl) rfl
        refine tt_k 6 (S' := (156, [some (.inr (.inl 1000004)), some (.inr (.inl 0)), some (.inr (.inl 30)), some (.inr (.inl 47)), some (.inl i), some (.inl r16), o6], [.inl (i + 1), .inr (.inl 1000004), .inr (.inl 30)], n10, D11, s12, p13, c14)) rfl ?_
        refine tt_stat (j := 4) (i := (i + 1)) rfl hs (by omega) ?_
        show tt Zi 12 0 (157, [some (.inr (.inl 1000004)), some (.inr (.inl 0)), some (.inr (.inl 30)), some (.inr (.inl 47)), some (.inl i), some (.inl r16), o6], [.inl ((xs ((i + 1)).toNat)), .inr (.inl 30)], n10, D11, s12, p13, c14) _
        refine tt_k 4 (S' := (162, [some (.inr (.inl 1000004)), some (.inr (.inl 0)), some (.inr (.inl 30)), some (.inr (.inl 47)), some (.inl i), some (.inl r16), o6], [.inl (i + 2), .inr (.inl 1000004), .inl ((xs ((i + 1)).toNat)), .inr (.inl 30)], n10, D11, s12, p13, c14)) rfl ?_
        refine tt_stat (j := 4) (i := (i + 2)) rfl hs (by omega) ?_
        show tt Zi 12 0 (163, [some (.inr (.inl 1000004)), some (.inr (.inl 0)), some (.inr (.inl 30)), some (.inr (.inl 47)), some (.inl i), some (.inl r16), o6], [.inl ((xs ((i + 2)).toNat)), .inl ((xs ((i + 1)).toNat)), .inr (.inl 30)], n10, D11, s12, p13, c14) _
        refine tt_k 4 (S' := (168, [some (.inr (.inl 1000004)), some (.inr (.inl 0)), some (.inr (.inl 30)), some (.inr (.inl 47)), some (.inl i), some (.inl r16), o6], [.inl (i + 3), .inr (.inl 1000004), .inl ((xs ((i + 2)).toNat)), .inl ((xs ((i + 1)).toNat)), .inr (.inl 30)], n10, D11, s12, p13, c14)) rfl ?_
        refine tt_stat (j := 4) (i := (i + 3)) rfl hs (by omega) ?_
        show tt Zi 12 0 (169, [some (.inr (.inl 1000004)), some (.inr (.inl 0)), some (.inr (.inl 30)), some (.inr (.inl 47)), some (.inl i), some (.inl r16), o6], [.inl ((xs ((i + 3)).toNat)), .inl ((xs ((i + 2)).toNat)), .inl ((xs ((i + 1)).toNat)), .inr (.inl 30)], n10, D11, s12, p13, c14) _
        refine tt_k 4 (S' := (174, [some (.inr (.inl 1000004)), some (.inr (.inl 0)), some (.inr (.inl 30)), some (.inr (.inl 47)), some (.inl i), some (.inl r16), o6], [.inl (i + 4), .inr (.inl 1000004), .inl ((xs ((i + 3)).toNat)), .inl ((xs ((i + 2)).toNat)), .inl ((xs ((i + 1)).toNat)), .inr (.inl 30)], n10, D11, s12, p13, c14)) rfl ?_
        refine tt_stat (j := 4) (i := (i + 4)) rfl hs (by omega) ?_
        show tt Zi 12 0 (175, [some (.inr (.inl 1000004)), some (.inr (.inl 0)), some (.inr (.inl 30)), some (.inr (.inl 47)), some (.inl i), some (.inl r16), o6], [.inl ((xs ((i + 4)).toNat)), .inl ((xs ((i + 3)).toNat)), .inl ((xs ((i + 2)).toNat)), .inl ((xs ((i + 1)).toNat)), .inr (.inl 30)], n10, D11, s12, p13, c14) _
        refine tt_cl (by omega) rfl (k_canvas2 (Zi := Zi) (D := D11) (s := s12) (p := p13) (c := c14) (by omega) hS12 hC14 ((xs ((i + 1)).toNat)) ((xs ((i + 2)).toNat)) ((xs ((i + 3)).toNat)) ((xs ((i + 4)).toNat)) (by omega) (by omega) (by omega) (by omega)) ?_
        rintro _ _ ⟨s22, c23, rfl, rfl, hS22, hC23, f24, g25, k26, k27, k28, k29, k30, k31, k32⟩
        have hW33 := wp_rf f24 (by decide) hW13
        show tt Zi 12 0 (178, [some (.inr (.inl 1000004)), some (.inr (.inl 0)), some (.inr (.inl 30)), some (.inr (.inl 47)), some (.inl i), some (.inl r16), o6], [], n10, D11, s22, p13, c23) _
        have te100 : s22 100 = (s12 100) := f24 100 (by decide)
        have te101 : s22 101 = (s12 101) := f24 101 (by decide)
        have te102 : s22 102 = (s12 102) := f24 102 (by decide)
        have te103 : s22 103 = (s12 103) := f24 103 (by decide)
        have ht2 : tie s22 := by
          by_cases hc : (1 ≤ (xs ((i + 1)).toNat) ∧ (xs ((i + 1)).toNat) ≤ 64) ∧ (1 ≤ (xs ((i + 2)).toNat) ∧ (xs ((i + 2)).toNat) ≤ 64) ∧ ((xs ((i + 3)).toNat) = 1 ∨ (xs ((i + 3)).toNat) = 3) ∧ (2 ≤ (xs ((i + 4)).toNat) ∧ (xs ((i + 4)).toNat) ≤ 16)
          · rcases k18 with ⟨er, _⟩ | ⟨er, hn⟩
            · rw [if_pos hc] at k27 k28 k29 k30
              rw [if_pos er] at tc100 tc101 tc102 tc103
              exact ⟨te100.trans (tc100.trans k27.symm), te101.trans (tc101.trans k28.symm), te102.trans (tc102.trans k29.symm), te103.trans (tc103.trans k30.symm)⟩
            · exact absurd hc hn
          · rcases k18 with ⟨er, hn⟩ | ⟨er, _⟩
            · exact absurd hn hc
            · have er2 : ¬ r16 = 0 := by rw [er]; decide
              rw [if_neg hc] at k27 k28 k29 k30
              rw [if_neg er2] at tc100 tc101 tc102 tc103
              exact ⟨te100.trans (tc100.trans (ht.1.trans (tc3001.symm.trans k27.symm))), te101.trans (tc101.trans (ht.2.1.trans (tc3002.symm.trans k28.symm))), te102.trans (tc102.trans (ht.2.2.1.trans (tc3003.symm.trans k29.symm))), te103.trans (tc103.trans (ht.2.2.2.trans (tc3004.symm.trans k30.symm)))⟩
        have tS2 : tiS s22 p13 c23 := tiS_cn hcE hrE FKc k18 k19 k21 g25 k31 (te100.trans tc100) (te101.trans tc101) (te102.trans tc102)
        have FKr := fk_rc FKc.1 g25 (by decide)
        have q1 : tqC c23 := tqC_cn hQ.1 FKc k18 k20 k21 g25 k32
        have q2 : tqW s22 := tqW_f (tqW_f hQ.2.1 FFc (by decide)) f24 (by decide)
        have q3 : tqP s22 p13 c23 := tqP_f hQ.2.2.1 FKc FKr (by decide) FFc (by decide) f24 (by decide)
        have q4 : tqT s22 := tqT_f (tqT_f hQ.2.2.2.1 FFc (by decide)) f24 (by decide)
        have q5 : tqB s22 p13 c23 := tqB_f hQ.2.2.2.2.1 FKc FKr (by decide) FFc (by decide) f24 (by decide)
        have q6 : tqU s22 p13 c23 := tqU_f hQ.2.2.2.2.2.1 FKc FKr (by decide) FFc (by decide) p8c f24 (by decide)
        have q7 : tqK p13 c23 := tqK_f ⟨KK, hK1, hK2⟩ FKc FKr (by decide)
        have tQ2 : tiQ s22 p13 c23 := ⟨q1, q2, q3, q4, q5, q6, q7⟩
        clear k27 k28 k29 k30 k31 k32 tc100 tc101 tc102 tc103 tc3001 tc3002 tc3003 tc3004 te100 te101 te102 te103
        refine tt_k 3 (S' := (23, [some (.inr (.inl 1000004)), some (.inr (.inl 0)), some (.inr (.inl 30)), some (.inr (.inl 47)), some (.inl (i + 9)), some (.inl r16), o6], [], n10, D11, s22, p13, c23)) rfl ?_
        exact ih (q + 1) (i + 9) (some (.inl r16)) (o6) (n10, D11, s22, p13, c23) ⟨hS22, hC23, (wp_rg hW33), FKr.1⟩ ht2 tS2 tQ2 (by omega) (by omega) (by omega) (by omega)
      by_cases h34 : (mi_and (xs (i).toNat) 15) = 1
      · have h35 := h34
        refine tt_tsw (x := (mi_and (xs (i).toNat) 15)) (off := 141) rfl (by omega) (by omega) (by rw [h34]; rfl) rfl ?_
        show tt Zi 12 0 (181, [some (.inr (.inl 1000004)), some (.inr (.inl 0)), some (.inr (.inl 30)), some (.inr (.inl 47)), some (.inl i), o5, o6], [], n, D, s, p, c) _
        refine tt_k 5 (S' := (187, [some (.inr (.inl 1000004)), some (.inr (.inl 0)), some (.inr (.inl 30)), some (.inr (.inl 47)), some (.inl i), o5, o6], [.inl (i + 1), .inr (.inl 1000004), .inr (.inl 0)], n, D, s, p, c)) rfl ?_
        refine tt_stat (j := 4) (i := (i + 1)) rfl hs (by omega) ?_
        show tt Zi 12 0 (188, [some (.inr (.inl 1000004)), some (.inr (.inl 0)), some (.inr (.inl 30)), some (.inr (.inl 47)), some (.inl i), o5, o6], [.inl ((xs ((i + 1)).toNat)), .inr (.inl 0)], n, D, s, p, c) _
        have b36 := hxs ((i + 1)).toNat
        refine tt_k 4 (S' := (193, [some (.inr (.inl 1000004)), some (.inr (.inl 0)), some (.inr (.inl 30)), some (.inr (.inl 47)), some (.inl i), o5, o6], [.inl (i + 2), .inr (.inl 1000004), .inl ((xs ((i + 1)).toNat)), .inr (.inl 0)], n, D, s, p, c)) rfl ?_
        refine tt_stat (j := 4) (i := (i + 2)) rfl hs (by omega) ?_
        show tt Zi 12 0 (194, [some (.inr (.inl 1000004)), some (.inr (.inl 0)), some (.inr (.inl 30)), some (.inr (.inl 47)), some (.inl i), o5, o6], [.inl ((xs ((i + 2)).toNat)), .inl ((xs ((i + 1)).toNat)), .inr (.inl 0)], n, D, s, p, c) _
        have b37 := hxs ((i + 2)).toNat
        refine tt_k 4 (S' := (199, [some (.inr (.inl 1000004)), some (.inr (.inl 0)), some (.inr (.inl 30)), some (.inr (.inl 47)), some (.inl i), o5, o6], [.inl (i + 3), .inr (.inl 1000004), .inl ((xs ((i + 2)).toNat)), .inl ((xs ((i + 1)).toNat)), .inr (.inl 0)], n, D, s, p, c)) rfl ?_
        refine tt_stat (j := 4) (i := (i + 3)) rfl hs (by omega) ?_
        show tt Zi 12 0 (200, [some (.inr (.inl 1000004)), some (.inr (.inl 0)), some (.inr (.inl 30)), some (.inr (.inl 47)), some (.inl i), o5, o6], [.inl ((xs ((i + 3)).toNat)), .inl ((xs ((i + 2)).toNat)), .inl ((xs ((i + 1)).toNat)), .inr (.inl 0)], n, D, s, p, c) _
        have b38 := hxs ((i + 3)).toNat
        refine tt_k 4 (S' := (205, [some (.inr (.inl 1000004)), some (.inr (.inl 0)), some (.inr (.inl 30)), some (.inr (.inl 47)), some (.inl i), o5, o6], [.inl (i + 4), .inr (.inl 1000004), .inl ((xs ((i + 3)).toNat)), .inl ((xs ((i + 2)).toNat)), .inl ((xs ((i + 1)).toNat)), .inr (.inl 0)], n, D, s, p, c)) rfl ?_
        refine tt_stat (j := 4) (i := (i + 4)) rfl hs (by omega) ?_
        show tt Zi 12 0 (206, [some (.inr (.inl 1000004)), some (.inr (.inl 0)), some (.inr (.inl 30)), some (.inr (.inl 47)), some (.inl i), o5, o6], [.inl ((xs ((i + 4)).toNat)), .inl ((xs ((i + 3)).toNat)), .inl ((xs ((i + 2)).toNat)), .inl ((xs ((i + 1)).toNat)), .inr (.inl 0)], n, D, s, p, c) _
        have b39 := hxs ((i + 4)).toNat
        refine tt_k 4 (S' := (211, [some (.inr (.inl 1000004)), some (.inr (.inl 0)), some (.inr (.inl 30)), some (.inr (.inl 47)), some (.inl i), o5, o6], [.inl (i + 5), .inr (.inl 1000004), .inl ((xs ((i + 4)).toNat)), .inl ((xs ((i + 3)).toNat)), .inl ((xs ((i + 2)).toNat)), .inl ((xs ((i + 1)).toNat)), .inr (.inl 0)], n, D, s, p, c)) rfl ?_
        refine tt_stat (j := 4) (i := (i + 5)) rfl hs (by omega) ?_
        show tt Zi 12 0 (212, [some (.inr (.inl 1000004)), some (.inr (.inl 0)), some (.inr (.inl 30)), some (.inr (.inl 47)), some (.inl i), o5, o6], [.inl ((xs ((i + 5)).toNat)), .inl ((xs ((i + 4)).toNat)), .inl ((xs ((i + 3)).toNat)), .inl ((xs ((i + 2)).toNat)), .inl ((xs ((i + 1)).toNat)), .inr (.inl 0)], n, D, s, p, c) _
        have b40 := hxs ((i + 5)).toNat
        refine tt_k 4 (S' := (218, [some (.inr (.inl 1000004)), some (.inr (.inl 0)), some (.inr (.inl 30)), some (.inr (.inl 47)), some (.inl i), o5, o6], [.inl (i + 6), .inr (.inl 1000004), .inl ((xs ((i + 5)).toNat)), .inl ((xs ((i + 4)).toNat)), .inl ((xs ((i + 3)).toNat)), .inl ((xs ((i + 2)).toNat)), .inl ((xs ((i + 1)).toNat)), .inr (.inl 0)], n, D, s, p, c)) rfl ?_
        refine tt_stat (j := 4) (i := (i + 6)) rfl hs (by omega) ?_
        show tt Zi 12 0 (219, [some (.inr (.inl 1000004)), some (.inr (.inl 0)), some (.inr (.inl 30)), some (.inr (.inl 47)), some (.inl i), o5, o6], [.inl ((xs ((i + 6)).toNat)), .inl ((xs ((i + 5)).toNat)), .inl ((xs ((i + 4)).toNat)), .inl ((xs ((i + 3)).toNat)), .inl ((xs ((i + 2)).toNat)), .inl ((xs ((i + 1)).toNat)), .inr (.inl 0)], n, D, s, p, c) _
        have b41 := hxs ((i + 6)).toNat
        refine tt_k 4 (S' := (225, [some (.inr (.inl 1000004)), some (.inr (.inl 0)), some (.inr (.inl 30)), some (.inr (.inl 47)), some (.inl i), o5, o6], [.inl (i + 7), .inr (.inl 1000004), .inl ((xs ((i + 6)).toNat)), .inl ((xs ((i + 5)).toNat)), .inl ((xs ((i + 4)).toNat)), .inl ((xs ((i + 3)).toNat)), .inl ((xs ((i + 2)).toNat)), .inl ((xs ((i + 1)).toNat)), .inr (.inl 0)], n, D, s, p, c)) rfl ?_
        refine tt_stat (j := 4) (i := (i + 7)) rfl hs (by omega) ?_
        show tt Zi 12 0 (226, [some (.inr (.inl 1000004)), some (.inr (.inl 0)), some (.inr (.inl 30)), some (.inr (.inl 47)), some (.inl i), o5, o6], [.inl ((xs ((i + 7)).toNat)), .inl ((xs ((i + 6)).toNat)), .inl ((xs ((i + 5)).toNat)), .inl ((xs ((i + 4)).toNat)), .inl ((xs ((i + 3)).toNat)), .inl ((xs ((i + 2)).toNat)), .inl ((xs ((i + 1)).toNat)), .inr (.inl 0)], n, D, s, p, c) _
        have b42 := hxs ((i + 7)).toNat
        refine tt_k 4 (S' := (232, [some (.inr (.inl 1000004)), some (.inr (.inl 0)), some (.inr (.inl 30)), some (.inr (.inl 47)), some (.inl i), o5, o6], [.inl (i + 8), .inr (.inl 1000004), .inl ((xs ((i + 7)).toNat)), .inl ((xs ((i + 6)).toNat)), .inl ((xs ((i + 5)).toNat)), .inl ((xs ((i + 4)).toNat)), .inl ((xs ((i + 3)).toNat)), .inl ((xs ((i + 2)).toNat)), .inl ((xs ((i + 1)).toNat)), .inr (.inl 0)], n, D, s, p, c)) rfl ?_
        refine tt_stat (j := 4) (i := (i + 8)) rfl hs (by omega) ?_
        show tt Zi 12 0 (233, [some (.inr (.inl 1000004)), some (.inr (.inl 0)), some (.inr (.inl 30)), some (.inr (.inl 47)), some (.inl i), o5, o6], [.inl ((xs ((i + 8)).toNat)), .inl ((xs ((i + 7)).toNat)), .inl ((xs ((i + 6)).toNat)), .inl ((xs ((i + 5)).toNat)), .inl ((xs ((i + 4)).toNat)), .inl ((xs ((i + 3)).toNat)), .inl ((xs ((i + 2)).toNat)), .inl ((xs ((i + 1)).toNat)), .inr (.inl 0)], n, D, s, p, c) _
        have b43 := hxs ((i + 8)).toNat
        refine tt_cl (by omega) rfl (h_draw (Zi := Zi) (q := q) (n := n) (D := D) (s := s) (p := p) (c := c) (by omega) hz (by omega) hD hS hC (wp_rg hW) E ((xs ((i + 1)).toNat)) ((xs ((i + 2)).toNat)) ((xs ((i + 3)).toNat)) ((xs ((i + 4)).toNat)) ((xs ((i + 5)).toNat)) ((xs ((i + 6)).toNat)) ((xs ((i + 7)).toNat)) ((xs ((i + 8)).toNat)) (by omega) (by omega) (by omega) (by omega) (by omega) (by omega) (by omega) (by omega) hcE) ?_
        rintro _ ⟨n44, D45, s46, p47, c48⟩ ⟨r50, rfl, b51, hY49, k52, k53, k54⟩
        have p8c : p47 8 = p 8 := (hY49).2
        have hS46 : bS s46 := (hY49).1.1
        have hC48 : bC D45 c48 := (hY49).1.2.1
        have hW47 : wp _ _ n44 D45 p47 s46 := (hY49).1.2.2.1
        have FKc : fk p c n44 p47 c48 [104] := (hY49).1.2.2.2.1
        have FFc : fr s s46 [800, 801, 802, 803, 804, 805, 806, 807, 808, 809] := (hY49).1.2.2.2.2
        replace k52 : dwP r50 ((xs ((i + 1)).toNat)) ((xs ((i + 2)).toNat)) ((xs ((i + 3)).toNat)) ((xs ((i + 4)).toNat)) ((xs ((i + 5)).toNat)) ((xs ((i + 6)).toNat)) ((xs ((i + 7)).toNat)) ((xs ((i + 8)).toNat)) (s 100) (s 101) (s 102) (s 103) := k52
        replace k53 : r50 = 0 → cv (dE E ((xs ((i + 1)).toNat)) ((xs ((i + 2)).toNat)) ((xs ((i + 3)).toNat)) ((xs ((i + 4)).toNat)) ((xs ((i + 5)).toNat)) ((xs ((i + 6)).toNat)) ((xs ((i + 7)).toNat)) ((xs ((i + 8)).toNat)) (mi_shl 1 (s 103) - 1) ((xs ((i + 5)).toNat)) 0) (s 100) (s 101) (s 102) (c48 (p47 104)) := k53
        replace k54 : r50 ≠ 0 → fk p c n44 p47 c48 [] := k54
        show tt Zi 12 0 (236, [some (.inr (.inl 1000004)), some (.inr (.inl 0)), some (.inr (.inl 30)), some (.inr (.inl 47)), some (.inl i), o5, o6], [.inl r50], n44, D45, s46, p47, c48) _
        have tc100 : s46 100 = (s 100) := hW47.gz 100 rfl
        have tc101 : s46 101 = (s 101) := hW47.gz 101 rfl
        have tc102 : s46 102 = (s 102) := hW47.gz 102 rfl
        have tc103 : s46 103 = (s 103) := hW47.gz 103 rfl
        have tc3001 : s46 3001 = (s 3001) := hW47.gz 3001 rfl
        have tc3002 : s46 3002 = (s 3002) := hW47.gz 3002 rfl
        have tc3003 : s46 3003 = (s 3003) := hW47.gz 3003 rfl
        have tc3004 : s46 3004 = (s 3004) := hW47.gz 3004 rfl
        refine tt_k 6 (S' := (244, [some (.inr (.inl 1000004)), some (.inr (.inl 0)), some (.inr (.inl 30)), some (.inr (.inl 47)), some (.inl i), some (.inl r50), o6], [.inl (i + 1), .inr (.inl 1000004), .inr (.inl 30)], n44, D45, s46, p47, c48)) rfl ?_
        refine tt_stat (j := 4) (i := (i + 1)) rfl hs (by omega) ?_
        show tt Zi 12 0 (245, [some (.inr (.inl 1000004)), some (.inr (.inl 0)), some (.inr (.inl 30)), some (.inr (.inl 47)), some (.inl i), some (.inl r50), o6], [.inl ((xs ((i + 1)).toNat)), .inr (.inl 30)], n44, D45, s46, p47, c48) _
        refine tt_k 4 (S' := (250, [some (.inr (.inl 1000004)), some (.inr (.inl 0)), some (.inr (.inl 30)), some (.inr (.inl 47)), some (.inl i), some (.inl r50), o6], [.inl (i + 2), .inr (.inl 1000004), .inl ((xs ((i + 1)).toNat)), .inr (.inl 30)], n44, D45, s46, p47, c48)) rfl ?_
        refine tt_stat (j := 4) (i := (i + 2)) rfl hs (by omega) ?_
        show tt Zi 12 0 (251, [some (.inr (.inl 1000004)), some (.inr (.inl 0)), some (.inr (.inl 30)), some (.inr (.inl 47)), some (.inl i), some (.inl r50), o6], [.inl ((xs ((i + 2)).toNat)), .inl ((xs ((i + 1)).toNat)), .inr (.inl 30)], n44, D45, s46, p47, c48) _
        refine tt_k 4 (S' := (256, [some (.inr (.inl 1000004)), some (.inr (.inl 0)), some (.inr (.inl 30)), some (.inr (.inl 47)), some (.inl i), some (.inl r50), o6], [.inl (i + 3), .inr (.inl 1000004), .inl ((xs ((i + 2)).toNat)), .inl ((xs ((i + 1)).toNat)), .inr (.inl 30)], n44, D45, s46, p47, c48)) rfl ?_
        refine tt_stat (j := 4) (i := (i + 3)) rfl hs (by omega) ?_
        show tt Zi 12 0 (257, [some (.inr (.inl 1000004)), some (.inr (.inl 0)), some (.inr (.inl 30)), some (.inr (.inl 47)), some (.inl i), some (.inl r50), o6], [.inl ((xs ((i + 3)).toNat)), .inl ((xs ((i + 2)).toNat)), .inl ((xs ((i + 1)).toNat)), .inr (.inl 30)], n44, D45, s46, p47, c48) _
        refine tt_k 4 (S' := (262, [some (.inr (.inl 1000004)), some (.inr (.inl 0)), some (.inr (.inl 30)), some (.inr (.inl 47)), some (.inl i), some (.inl r50), o6], [.inl (i + 4), .inr (.inl 1000004), .inl ((xs ((i + 3)).toNat)), .inl ((xs ((i + 2)).toNat)), .inl ((xs ((i + 1)).toNat)), .inr (.inl 30)], n44, D45, s46, p47, c48)) rfl ?_
        refine tt_stat (j := 4) (i := (i + 4)) rfl hs (by omega) ?_
        show tt Zi 12 0 (263, [some (.inr (.inl 1000004)), some (.inr (.inl 0)), some (.inr (.inl 30)), some (.inr (.inl 47)), some (.inl i), some (.inl r50), o6], [.inl ((xs ((i + 4)).toNat)), .inl ((xs ((i + 3)).toNat)), .inl ((xs ((i + 2)).toNat)), .inl ((xs ((i + 1)).toNat)), .inr (.inl 30)], n44, D45, s46, p47, c48) _
        refine tt_k 4 (S' := (268, [some (.inr (.inl 1000004)), some (.inr (.inl 0)), some (.inr (.inl 30)), some (.inr (.inl 47)), some (.inl i), some (.inl r50), o6], [.inl (i + 5), .inr (.inl 1000004), .inl ((xs ((i + 4)).toNat)), .inl ((xs ((i + 3)).toNat)), .inl ((xs ((i + 2)).toNat)), .inl ((xs ((i + 1)).toNat)), .inr (.inl 30)], n44, D45, s46, p47, c48)) rfl ?_
        refine tt_stat (j := 4) (i := (i + 5)) rfl hs (by omega) ?_
        show tt Zi 12 0 (269, [some (.inr (.inl 1000004)), some (.inr (.inl 0)), some (.inr (.inl 30)), some (.inr (.inl 47)), some (.inl i), some (.inl r50), o6], [.inl ((xs ((i + 5)).toNat)), .inl ((xs ((i + 4)).toNat)), .inl ((xs ((i + 3)).toNat)), .inl ((xs ((i + 2)).toNat)), .inl ((xs ((i + 1)).toNat)), .inr (.inl 30)], n44, D45, s46, p47, c48) _
        refine tt_k 4 (S' := (275, [some (.inr (.inl 1000004)), some (.inr (.inl 0)), some (.inr (.inl 30)), some (.inr (.inl 47)), some (.inl i), some (.inl r50), o6], [.inl (i + 6), .inr (.inl 1000004), .inl ((xs ((i + 5)).toNat)), .inl ((xs ((i + 4)).toNat)), .inl ((xs ((i + 3)).toNat)), .inl ((xs ((i + 2)).toNat)), .inl ((xs ((i + 1)).toNat)), .inr (.inl 30)], n44, D45, s46, p47, c48)) rfl ?_
        refine tt_stat (j := 4) (i := (i + 6)) rfl hs (by omega) ?_
        show tt Zi 12 0 (276, [some (.inr (.inl 1000004)), some (.inr (.inl 0)), some (.inr (.inl 30)), some (.inr (.inl 47)), some (.inl i), some (.inl r50), o6], [.inl ((xs ((i + 6)).toNat)), .inl ((xs ((i + 5)).toNat)), .inl ((xs ((i + 4)).toNat)), .inl ((xs ((i + 3)).toNat)), .inl ((xs ((i + 2)).toNat)), .inl ((xs ((i + 1)).toNat)), .inr (.inl 30)], n44, D45, s46, p47, c48) _
        refine tt_k 4 (S' := (282, [some (.inr (.inl 1000004)), some (.inr (.inl 0)), some (.inr (.inl 30)), some (.inr (.inl 47)), some (.inl i), some (.inl r50), o6], [.inl (i + 7), .inr (.inl 1000004), .inl ((xs ((i + 6)).toNat)), .inl ((xs ((i + 5)).toNat)), .inl ((xs ((i + 4)).toNat)), .inl ((xs ((i + 3)).toNat)), .inl ((xs ((i + 2)).toNat)), .inl ((xs ((i + 1)).toNat)), .inr (.inl 30)], n44, D45, s46, p47, c48)) rfl ?_
        refine tt_stat (j := 4) (i := (i + 7)) rfl hs (by omega) ?_
        show tt Zi 12 0 (283, [some (.inr (.inl 1000004)), some (.inr (.inl 0)), some (.inr (.inl 30)), some (.inr (.inl 47)), some (.inl i), some (.inl r50), o6], [.inl ((xs ((i + 7)).toNat)), .inl ((xs ((i + 6)).toNat)), .inl ((xs ((i + 5)).toNat)), .inl ((xs ((i + 4)).toNat)), .inl ((xs ((i + 3)).toNat)), .inl ((xs ((i + 2)).toNat)), .inl ((xs ((i + 1)).toNat)), .inr (.inl 30)], n44, D45, s46, p47, c48) _
        refine tt_k 4 (S' := (289, [some (.inr (.inl 1000004)), some (.inr (.inl 0)), some (.inr (.inl 30)), some (.inr (.inl 47)), some (.inl i), some (.inl r50), o6], [.inl (i + 8), .inr (.inl 1000004), .inl ((xs ((i + 7)).toNat)), .inl ((xs ((i + 6)).toNat)), .inl ((xs ((i + 5)).toNat)), .inl ((xs ((i + 4)).toNat)), .inl ((xs ((i + 3)).toNat)), .inl ((xs ((i + 2)).toNat)), .inl ((xs ((i + 1)).toNat)), .inr (.inl 30)], n44, D45, s46, p47, c48)) rfl ?_
        refine tt_stat (j := 4) (i := (i + 8)) rfl hs (by omega) ?_
        show tt Zi 12 0 (290, [some (.inr (.inl 1000004)), some (.inr (.inl 0)), some (.inr (.inl 30)), some (.inr (.inl 47)), some (.inl i), some (.inl r50), o6], [.inl ((xs ((i + 8)).toNat)), .inl ((xs ((i + 7)).toNat)), .inl ((xs ((i + 6)).toNat)), .inl ((xs ((i + 5)).toNat)), .inl ((xs ((i + 4)).toNat)), .inl ((xs ((i + 3)).toNat)), .inl ((xs ((i + 2)).toNat)), .inl ((xs ((i + 1)).toNat)), .inr (.inl 30)], n44, D45, s46, p47, c48) _
        have eq3001 : (s46 3001) = s 100 := tc3001.trans ht.1.symm
        have eq3002 : (s46 3002) = s 101 := tc3002.trans ht.2.1.symm
        have eq3003 : (s46 3003) = s 102 := tc3003.trans ht.2.2.1.symm
        have eq3004 : (s46 3004) = s 103 := tc3004.trans ht.2.2.2.symm
        have hcr : cr E (s46 3001) (s46 3002) (s46 3003) (c48 31) := by rw [eq3001, eq3002, eq3003, fk_c (k := 31) FKc (by decide)]; exact hrE
        refine tt_cl (by omega) rfl (k_draw2 (Zi := Zi) (D := D45) (s := s46) (p := p47) (c := c48) (by omega) hS46 hC48 E ((xs ((i + 1)).toNat)) ((xs ((i + 2)).toNat)) ((xs ((i + 3)).toNat)) ((xs ((i + 4)).toNat)) ((xs ((i + 5)).toNat)) ((xs ((i + 6)).toNat)) ((xs ((i + 7)).toNat)) ((xs ((i + 8)).toNat)) (by omega) (by omega) (by omega) (by omega) (by omega) (by omega) (by omega) (by omega) hcr) ?_
        rintro _ _ ⟨s55, c56, rfl, rfl, hS55, hC56, f57, g58, k59, k60, k61⟩
        have hW62 := wp_rf f57 (by decide) hW47
        show tt Zi 12 0 (293, [some (.inr (.inl 1000004)), some (.inr (.inl 0)), some (.inr (.inl 30)), some (.inr (.inl 47)), some (.inl i), some (.inl r50), o6], [], n44, D45, s55, p47, c56) _
        have te100 : s55 100 = (s46 100) := f57 100 (by decide)
        have te101 : s55 101 = (s46 101) := f57 101 (by decide)
        have te102 : s55 102 = (s46 102) := f57 102 (by decide)
        have te103 : s55 103 = (s46 103) := f57 103 (by decide)
        have te3001 : s55 3001 = (s46 3001) := f57 3001 (by decide)
        have te3002 : s55 3002 = (s46 3002) := f57 3002 (by decide)
        have te3003 : s55 3003 = (s46 3003) := f57 3003 (by decide)
        have te3004 : s55 3004 = (s46 3004) := f57 3004 (by decide)
        have ht2 : tie s55 := ⟨te100.trans (tc100.trans (ht.1.trans (tc3001.symm.trans te3001.symm))), te101.trans (tc101.trans (ht.2.1.trans (tc3002.symm.trans te3002.symm))), te102.trans (tc102.trans (ht.2.2.1.trans (tc3003.symm.trans te3003.symm))), te103.trans (tc103.trans (ht.2.2.2.trans (tc3004.symm.trans te3004.symm)))⟩
        have FKr := fk_rc FKc.1 g58 (by decide)
        have hqd := dw_eq (k52) k59 eq3001 eq3002 eq3003 eq3004
        have tS2 : tiS s55 p47 c56 := tiS_dr hcE hrE FKc k53 k54 g58 k60 k61 hqd eq3001 eq3002 eq3003 eq3004 (te100.trans tc100) (te101.trans tc101) (te102.trans tc102)
        clear k59 k60 k61 eq3001 eq3002 eq3003 eq3004
        have q1 : tqC c56 := tqC_f hQ.1 FKc FKr (by decide)
        have q2 : tqW s55 := tqW_f (tqW_f hQ.2.1 FFc (by decide)) f57 (by decide)
        have q3 : tqP s55 p47 c56 := tqP_f hQ.2.2.1 FKc FKr (by decide) FFc (by decide) f57 (by decide)
        have q4 : tqT s55 := tqT_f (tqT_f hQ.2.2.2.1 FFc (by decide)) f57 (by decide)
        have q5 : tqB s55 p47 c56 := tqB_f hQ.2.2.2.2.1 FKc FKr (by decide) FFc (by decide) f57 (by decide)
        have q6 : tqU s55 p47 c56 := tqU_f hQ.2.2.2.2.2.1 FKc FKr (by decide) FFc (by decide) p8c f57 (by decide)
        have q7 : tqK p47 c56 := tqK_f ⟨KK, hK1, hK2⟩ FKc FKr (by decide)
        have tQ2 : tiQ s55 p47 c56 := ⟨q1, q2, q3, q4, q5, q6, q7⟩
        clear tc100 tc101 tc102 tc103 tc3001 tc3002 tc3003 tc3004 te100 te101 te102 te103 te3001 te3002 te3003 te3004
        refine tt_k 3 (S' := (23, [some (.inr (.inl 1000004)), some (.inr (.inl 0)), some (.inr (.inl 30)), some (.inr (.inl 47)), some (.inl (i + 9)), some (.inl r50), o6], [], n44, D45, s55, p47, c56)) rfl ?_
        exact ih (q + 1) (i + 9) (some (.inl r50)) (o6) (n44, D45, s55, p47, c56) ⟨hS55, hC56, (wp_rg hW62), FKr.1⟩ ht2 tS2 tQ2 (by omega) (by omega) (by omega) (by omega)
      by_cases h63 : (mi_and (xs (i).toNat) 15) = 2
      · have h64 := h63
        refine tt_tsw (x := (mi_and (xs (i).toNat) 15)) (off := 256) rfl (by omega) (by omega) (by rw [h63]; rfl) rfl ?_
        show tt Zi 12 0 (296, [some (.inr (.inl 1000004)), some (.inr (.inl 0)), some (.inr (.inl 30)), some (.inr (.inl 47)), some (.inl i), o5, o6], [], n, D, s, p, c) _
        refine tt_k 5 (S' := (302, [some (.inr (.inl 1000004)), some (.inr (.inl 0)), some (.inr (.inl 30)), some (.inr (.inl 47)), some (.inl i), o5, o6], [.inl (i + 1), .inr (.inl 1000004), .inr (.inl 0)], n, D, s, p, c)) rfl ?_
        refine tt_stat (j := 4) (i := (i + 1)) rfl hs (by omega) ?_
        show tt Zi 12 0 (303, [some (.inr (.inl 1000004)), some (.inr (.inl 0)), some (.inr (.inl 30)), some (.inr (.inl 47)), some (.inl i), o5, o6], [.inl ((xs ((i + 1)).toNat)), .inr (.inl 0)], n, D, s, p, c) _
        have b65 := hxs ((i + 1)).toNat
        refine tt_k 4 (S' := (308, [some (.inr (.inl 1000004)), some (.inr (.inl 0)), some (.inr (.inl 30)), some (.inr (.inl 47)), some (.inl i), o5, o6], [.inl (i + 2), .inr (.inl 1000004), .inl ((xs ((i + 1)).toNat)), .inr (.inl 0)], n, D, s, p, c)) rfl ?_
        refine tt_stat (j := 4) (i := (i + 2)) rfl hs (by omega) ?_
        show tt Zi 12 0 (309, [some (.inr (.inl 1000004)), some (.inr (.inl 0)), some (.inr (.inl 30)), some (.inr (.inl 47)), some (.inl i), o5, o6], [.inl ((xs ((i + 2)).toNat)), .inl ((xs ((i + 1)).toNat)), .inr (.inl 0)], n, D, s, p, c) _
        have b66 := hxs ((i + 2)).toNat
        refine tt_k 4 (S' := (314, [some (.inr (.inl 1000004)), some (.inr (.inl 0)), some (.inr (.inl 30)), some (.inr (.inl 47)), some (.inl i), o5, o6], [.inl (i + 3), .inr (.inl 1000004), .inl ((xs ((i + 2)).toNat)), .inl ((xs ((i + 1)).toNat)), .inr (.inl 0)], n, D, s, p, c)) rfl ?_
        refine tt_stat (j := 4) (i := (i + 3)) rfl hs (by omega) ?_
        show tt Zi 12 0 (315, [some (.inr (.inl 1000004)), some (.inr (.inl 0)), some (.inr (.inl 30)), some (.inr (.inl 47)), some (.inl i), o5, o6], [.inl ((xs ((i + 3)).toNat)), .inl ((xs ((i + 2)).toNat)), .inl ((xs ((i + 1)).toNat)), .inr (.inl 0)], n, D, s, p, c) _
        have b67 := hxs ((i + 3)).toNat
        refine tt_k 1 (S' := (316, [some (.inr (.inl 1000004)), some (.inr (.inl 0)), some (.inr (.inl 30)), some (.inr (.inl 47)), some (.inl i), o5, o6], [.inr (.inl 47), .inl ((xs ((i + 3)).toNat)), .inl ((xs ((i + 2)).toNat)), .inl ((xs ((i + 1)).toNat)), .inr (.inl 0)], n, D, s, p, c)) rfl ?_
        refine tt_cl (by omega) rfl (h_at (Zi := Zi) (q := q) (n := n) (D := D) (s := s) (p := p) (c := c) (by omega) hz (by omega) hD hS hC (wp_rg hW) ((xs ((i + 1)).toNat)) ((xs ((i + 2)).toNat)) ((xs ((i + 3)).toNat)) (by omega) (by omega) (by omega)) ?_
        rintro _ ⟨n68, D69, s70, p71, c72⟩ ⟨r74, rfl, b75, hY73, k76⟩
        have p8c : p71 8 = p 8 := (hY73).2
        have hS70 : bS s70 := (hY73).1.1
        have hC72 : bC D69 c72 := (hY73).1.2.1
        have hW71 : wp _ _ n68 D69 p71 s70 := (hY73).1.2.2.1
        have FKc : fk p c n68 p71 c72 [47] := (hY73).1.2.2.2.1
        have FFc : fr s s70 [800, 801, 802, 803, 804, 805, 806, 807, 808, 809] := (hY73).1.2.2.2.2
        replace k76 : atP r74 ((xs ((i + 1)).toNat)) ((xs ((i + 2)).toNat)) ((xs ((i + 3)).toNat)) (s 100) (s 101) (s 102) (c72 47 0) (c (p 104) ((((xs ((i + 1)).toNat)) * s 101 + ((xs ((i + 3)).toNat))) * s 100 + ((xs ((i + 2)).toNat))).toNat) := k76
        show tt Zi 12 0 (319, [some (.inr (.inl 1000004)), some (.inr (.inl 0)), some (.inr (.inl 30)), some (.inr (.inl 47)), some (.inl i), o5, o6], [.inl r74], n68, D69, s70, p71, c72) _
        have tc100 : s70 100 = (s 100) := hW71.gz 100 rfl
        have tc101 : s70 101 = (s 101) := hW71.gz 101 rfl
        have tc102 : s70 102 = (s 102) := hW71.gz 102 rfl
        have tc103 : s70 103 = (s 103) := hW71.gz 103 rfl
        have tc3001 : s70 3001 = (s 3001) := hW71.gz 3001 rfl
        have tc3002 : s70 3002 = (s 3002) := hW71.gz 3002 rfl
        have tc3003 : s70 3003 = (s 3003) := hW71.gz 3003 rfl
        have tc3004 : s70 3004 = (s 3004) := hW71.gz 3004 rfl
        refine tt_k 6 (S' := (327, [some (.inr (.inl 1000004)), some (.inr (.inl 0)), some (.inr (.inl 30)), some (.inr (.inl 47)), some (.inl i), some (.inl r74), o6], [.inl (i + 1), .inr (.inl 1000004), .inr (.inl 30)], n68, D69, s70, p71, c72)) rfl ?_
        refine tt_stat (j := 4) (i := (i + 1)) rfl hs (by omega) ?_
        show tt Zi 12 0 (328, [some (.inr (.inl 1000004)), some (.inr (.inl 0)), some (.inr (.inl 30)), some (.inr (.inl 47)), some (.inl i), some (.inl r74), o6], [.inl ((xs ((i + 1)).toNat)), .inr (.inl 30)], n68, D69, s70, p71, c72) _
        refine tt_k 4 (S' := (333, [some (.inr (.inl 1000004)), some (.inr (.inl 0)), some (.inr (.inl 30)), some (.inr (.inl 47)), some (.inl i), some (.inl r74), o6], [.inl (i + 2), .inr (.inl 1000004), .inl ((xs ((i + 1)).toNat)), .inr (.inl 30)], n68, D69, s70, p71, c72)) rfl ?_
        refine tt_stat (j := 4) (i := (i + 2)) rfl hs (by omega) ?_
        show tt Zi 12 0 (334, [some (.inr (.inl 1000004)), some (.inr (.inl 0)), some (.inr (.inl 30)), some (.inr (.inl 47)), some (.inl i), some (.inl r74), o6], [.inl ((xs ((i + 2)).toNat)), .inl ((xs ((i + 1)).toNat)), .inr (.inl 30)], n68, D69, s70, p71, c72) _
        refine tt_k 4 (S' := (339, [some (.inr (.inl 1000004)), some (.inr (.inl 0)), some (.inr (.inl 30)), some (.inr (.inl 47)), some (.inl i), some (.inl r74), o6], [.inl (i + 3), .inr (.inl 1000004), .inl ((xs ((i + 2)).toNat)), .inl ((xs ((i + 1)).toNat)), .inr (.inl 30)], n68, D69, s70, p71, c72)) rfl ?_
        refine tt_stat (j := 4) (i := (i + 3)) rfl hs (by omega) ?_
        show tt Zi 12 0 (340, [some (.inr (.inl 1000004)), some (.inr (.inl 0)), some (.inr (.inl 30)), some (.inr (.inl 47)), some (.inl i), some (.inl r74), o6], [.inl ((xs ((i + 3)).toNat)), .inl ((xs ((i + 2)).toNat)), .inl ((xs ((i + 1)).toNat)), .inr (.inl 30)], n68, D69, s70, p71, c72) _
        refine tt_cl (by omega) rfl (k_at2 (Zi := Zi) (D := D69) (s := s70) (p := p71) (c := c72) (by omega) hS70 hC72 ((xs ((i + 1)).toNat)) ((xs ((i + 2)).toNat)) ((xs ((i + 3)).toNat)) (by omega) (by omega) (by omega)) ?_
        rintro _ _ ⟨s77, r78, rfl, rfl, hS77, f79, b80, k81, k82⟩
        have hW83 := wp_rf f79 (by decide) hW71
        show tt Zi 12 0 (343, [some (.inr (.inl 1000004)), some (.inr (.inl 0)), some (.inr (.inl 30)), some (.inr (.inl 47)), some (.inl i), some (.inl r74), o6], [.inl r78], n68, D69, s77, p71, c72) _
        have te100 : s77 100 = (s70 100) := f79 100 (by decide)
        have te101 : s77 101 = (s70 101) := f79 101 (by decide)
        have te102 : s77 102 = (s70 102) := f79 102 (by decide)
        have te103 : s77 103 = (s70 103) := f79 103 (by decide)
        have te3001 : s77 3001 = (s70 3001) := f79 3001 (by decide)
        have te3002 : s77 3002 = (s70 3002) := f79 3002 (by decide)
        have te3003 : s77 3003 = (s70 3003) := f79 3003 (by decide)
        have te3004 : s77 3004 = (s70 3004) := f79 3004 (by decide)
        have ht2 : tie s77 := ⟨te100.trans (tc100.trans (ht.1.trans (tc3001.symm.trans te3001.symm))), te101.trans (tc101.trans (ht.2.1.trans (tc3002.symm.trans te3002.symm))), te102.trans (tc102.trans (ht.2.2.1.trans (tc3003.symm.trans te3003.symm))), te103.trans (tc103.trans (ht.2.2.2.trans (tc3004.symm.trans te3004.symm)))⟩
        have FKr := fk_rf (c := c72) (K := []) FKc.1
        have tS2 : tiS s77 p71 c72 := tiS_fk (tiS_fk ⟨E, hcE, hrE⟩ FKc (by decide) tc100 tc101 tc102) FKr (by decide) te100 te101 te102
        have eq3001 : (s70 3001) = s 100 := tc3001.trans ht.1.symm
        have eq3002 : (s70 3002) = s 101 := tc3002.trans ht.2.1.symm
        have eq3003 : (s70 3003) = s 102 := tc3003.trans ht.2.2.1.symm
        have hqa := at_q hcE hrE FKc k76 k81 k82 eq3001 eq3002 eq3003
        clear k81 k82 eq3001 eq3002 eq3003
        have q1 : tqC c72 := tqC_f hQ.1 FKc FKr (by decide)
        have q2 : tqW s77 := tqW_f (tqW_f hQ.2.1 FFc (by decide)) f79 (by decide)
        have q3 : tqP s77 p71 c72 := tqP_f hQ.2.2.1 FKc FKr (by decide) FFc (by decide) f79 (by decide)
        have q4 : tqT s77 := tqT_f (tqT_f hQ.2.2.2.1 FFc (by decide)) f79 (by decide)
        have q5 : tqB s77 p71 c72 := tqB_f hQ.2.2.2.2.1 FKc FKr (by decide) FFc (by decide) f79 (by decide)
        have q6 : tqU s77 p71 c72 := tqU_f hQ.2.2.2.2.2.1 FKc FKr (by decide) FFc (by decide) p8c f79 (by decide)
        have q7 : tqK p71 c72 := tqK_f ⟨KK, hK1, hK2⟩ FKc FKr (by decide)
        have tQ2 : tiQ s77 p71 c72 := ⟨q1, q2, q3, q4, q5, q6, q7⟩
        clear tc100 tc101 tc102 tc103 tc3001 tc3002 tc3003 tc3004 te100 te101 te102 te103 te3001 te3002 te3003 te3004
        refine tt_k 4 (S' := (23, [some (.inr (.inl 1000004)), some (.inr (.inl 0)), some (.inr (.inl 30)), some (.inr (.inl 47)), some (.inl (i + 9)), some (.inl r74), some (.inl r78)], [], n68, D69, s77, p71, c72)) rfl ?_
        exact ih (q + 1) (i + 9) (some (.inl r74)) (some (.inl r78)) (n68, D69, s77, p71, c72) ⟨hS77, hC72, (wp_rg hW83), FKr.1⟩ ht2 tS2 tQ2 (by omega) (by omega) (by omega) (by omega)
      by_cases h84 : (mi_and (xs (i).toNat) 15) = 3
      · have h85 := h84
        refine tt_tsw (x := (mi_and (xs (i).toNat) 15)) (off := 308) rfl (by omega) (by omega) (by rw [h84]; rfl) rfl ?_
        show tt Zi 12 0 (348, [some (.inr (.inl 1000004)), some (.inr (.inl 0)), some (.inr (.inl 30)), some (.inr (.inl 47)), some (.inl i), o5, o6], [], n, D, s, p, c) _
        refine tt_k 5 (S' := (354, [some (.inr (.inl 1000004)), some (.inr (.inl 0)), some (.inr (.inl 30)), some (.inr (.inl 47)), some (.inl i), o5, o6], [.inl (i + 1), .inr (.inl 1000004), .inr (.inl 0)], n, D, s, p, c)) rfl ?_
        refine tt_stat (j := 4) (i := (i + 1)) rfl hs (by omega) ?_
        show tt Zi 12 0 (355, [some (.inr (.inl 1000004)), some (.inr (.inl 0)), some (.inr (.inl 30)), some (.inr (.inl 47)), some (.inl i), o5, o6], [.inl ((xs ((i + 1)).toNat)), .inr (.inl 0)], n, D, s, p, c) _
        have b86 := hxs ((i + 1)).toNat
        refine tt_k 4 (S' := (360, [some (.inr (.inl 1000004)), some (.inr (.inl 0)), some (.inr (.inl 30)), some (.inr (.inl 47)), some (.inl i), o5, o6], [.inl (i + 2), .inr (.inl 1000004), .inl ((xs ((i + 1)).toNat)), .inr (.inl 0)], n, D, s, p, c)) rfl ?_
        refine tt_stat (j := 4) (i := (i + 2)) rfl hs (by omega) ?_
        show tt Zi 12 0 (361, [some (.inr (.inl 1000004)), some (.inr (.inl 0)), some (.inr (.inl 30)), some (.inr (.inl 47)), some (.inl i), o5, o6], [.inl ((xs ((i + 2)).toNat)), .inl ((xs ((i + 1)).toNat)), .inr (.inl 0)], n, D, s, p, c) _
        have b87 := hxs ((i + 2)).toNat
        refine tt_k 4 (S' := (366, [some (.inr (.inl 1000004)), some (.inr (.inl 0)), some (.inr (.inl 30)), some (.inr (.inl 47)), some (.inl i), o5, o6], [.inl (i + 3), .inr (.inl 1000004), .inl ((xs ((i + 2)).toNat)), .inl ((xs ((i + 1)).toNat)), .inr (.inl 0)], n, D, s, p, c)) rfl ?_
        refine tt_stat (j := 4) (i := (i + 3)) rfl hs (by omega) ?_
        show tt Zi 12 0 (367, [some (.inr (.inl 1000004)), some (.inr (.inl 0)), some (.inr (.inl 30)), some (.inr (.inl 47)), some (.inl i), o5, o6], [.inl ((xs ((i + 3)).toNat)), .inl ((xs ((i + 2)).toNat)), .inl ((xs ((i + 1)).toNat)), .inr (.inl 0)], n, D, s, p, c) _
        have b88 := hxs ((i + 3)).toNat
        refine tt_k 4 (S' := (372, [some (.inr (.inl 1000004)), some (.inr (.inl 0)), some (.inr (.inl 30)), some (.inr (.inl 47)), some (.inl i), o5, o6], [.inl (i + 4), .inr (.inl 1000004), .inl ((xs ((i + 3)).toNat)), .inl ((xs ((i + 2)).toNat)), .inl ((xs ((i + 1)).toNat)), .inr (.inl 0)], n, D, s, p, c)) rfl ?_
        refine tt_stat (j := 4) (i := (i + 4)) rfl hs (by omega) ?_
        show tt Zi 12 0 (373, [some (.inr (.inl 1000004)), some (.inr (.inl 0)), some (.inr (.inl 30)), some (.inr (.inl 47)), some (.inl i), o5, o6], [.inl ((xs ((i + 4)).toNat)), .inl ((xs ((i + 3)).toNat)), .inl ((xs ((i + 2)).toNat)), .inl ((xs ((i + 1)).toNat)), .inr (.inl 0)], n, D, s, p, c) _
        have b89 := hxs ((i + 4)).toNat
        refine tt_k 4 (S' := (378, [some (.inr (.inl 1000004)), some (.inr (.inl 0)), some (.inr (.inl 30)), some (.inr (.inl 47)), some (.inl i), o5, o6], [.inl (i + 5), .inr (.inl 1000004), .inl ((xs ((i + 4)).toNat)), .inl ((xs ((i + 3)).toNat)), .inl ((xs ((i + 2)).toNat)), .inl ((xs ((i + 1)).toNat)), .inr (.inl 0)], n, D, s, p, c)) rfl ?_
        refine tt_stat (j := 4) (i := (i + 5)) rfl hs (by omega) ?_
        show tt Zi 12 0 (379, [some (.inr (.inl 1000004)), some (.inr (.inl 0)), some (.inr (.inl 30)), some (.inr (.inl 47)), some (.inl i), o5, o6], [.inl ((xs ((i + 5)).toNat)), .inl ((xs ((i + 4)).toNat)), .inl ((xs ((i + 3)).toNat)), .inl ((xs ((i + 2)).toNat)), .inl ((xs ((i + 1)).toNat)), .inr (.inl 0)], n, D, s, p, c) _
        have b90 := hxs ((i + 5)).toNat
        refine tt_cl (by omega) rfl (h_measures (Zi := Zi) (q := q) (n := n) (D := D) (s := s) (p := p) (c := c) (by omega) hz (by omega) hD hS hC (wp_rg hW) ((xs ((i + 1)).toNat)) ((xs ((i + 2)).toNat)) ((xs ((i + 3)).toNat)) ((xs ((i + 4)).toNat)) ((xs ((i + 5)).toNat)) (by omega) (by omega) (by omega) (by omega) (by omega)) ?_
        rintro _ ⟨n91, D92, s93, p94, c95⟩ ⟨r97, rfl, b98, hY96, k99, k100, k101⟩
        have p8c : p94 8 = p 8 := (hY96).2
        have hS93 : bS s93 := (hY96).1.1
        have hC95 : bC D92 c95 := (hY96).1.2.1
        have hW94 : wp _ _ n91 D92 p94 s93 := (hY96).1.2.2.1
        have FKc : fk p c n91 p94 c95 [3] := (hY96).1.2.2.2.1
        have FFc : fr s s93 [800, 801, 802, 803, 804, 805, 806, 807, 808, 809] := (hY96).1.2.2.2.2
        replace k99 : meP r97 ((xs ((i + 1)).toNat)) ((xs ((i + 2)).toNat)) ((xs ((i + 3)).toNat)) ((xs ((i + 4)).toNat)) ((xs ((i + 5)).toNat)) (s 103) := k99
        replace k100 : r97 = 0 → (c95 3 0 = ((xs ((i + 1)).toNat)) ∧ c95 3 1 = ((xs ((i + 2)).toNat)) ∧ c95 3 2 = ((xs ((i + 3)).toNat)) ∧ c95 3 3 = ((xs ((i + 4)).toNat)) ∧ c95 3 4 = ((xs ((i + 5)).toNat))) := k100
        replace k101 : r97 ≠ 0 → fk p c n91 p94 c95 [] := k101
        show tt Zi 12 0 (382, [some (.inr (.inl 1000004)), some (.inr (.inl 0)), some (.inr (.inl 30)), some (.inr (.inl 47)), some (.inl i), o5, o6], [.inl r97], n91, D92, s93, p94, c95) _
        have tc100 : s93 100 = (s 100) := hW94.gz 100 rfl
        have tc101 : s93 101 = (s 101) := hW94.gz 101 rfl
        have tc102 : s93 102 = (s 102) := hW94.gz 102 rfl
        have tc103 : s93 103 = (s 103) := hW94.gz 103 rfl
        have tc3001 : s93 3001 = (s 3001) := hW94.gz 3001 rfl
        have tc3002 : s93 3002 = (s 3002) := hW94.gz 3002 rfl
        have tc3003 : s93 3003 = (s 3003) := hW94.gz 3003 rfl
        have tc3004 : s93 3004 = (s 3004) := hW94.gz 3004 rfl
        refine tt_k 6 (S' := (390, [some (.inr (.inl 1000004)), some (.inr (.inl 0)), some (.inr (.inl 30)), some (.inr (.inl 47)), some (.inl i), some (.inl r97), o6], [.inl (i + 1), .inr (.inl 1000004), .inr (.inl 30)], n91, D92, s93, p94, c95)) rfl ?_
        refine tt_stat (j := 4) (i := (i + 1)) rfl hs (by omega) ?_
        show tt Zi 12 0 (391, [some (.inr (.inl 1000004)), some (.inr (.inl 0)), some (.inr (.inl 30)), some (.inr (.inl 47)), some (.inl i), some (.inl r97), o6], [.inl ((xs ((i + 1)).toNat)), .inr (.inl 30)], n91, D92, s93, p94, c95) _
        refine tt_k 4 (S' := (396, [some (.inr (.inl 1000004)), some (.inr (.inl 0)), some (.inr (.inl 30)), some (.inr (.inl 47)), some (.inl i), some (.inl r97), o6], [.inl (i + 2), .inr (.inl 1000004), .inl ((xs ((i + 1)).toNat)), .inr (.inl 30)], n91, D92, s93, p94, c95)) rfl ?_
        refine tt_stat (j := 4) (i := (i + 2)) rfl hs (by omega) ?_
        show tt Zi 12 0 (397, [some (.inr (.inl 1000004)), some (.inr (.inl 0)), some (.inr (.inl 30)), some (.inr (.inl 47)), some (.inl i), some (.inl r97), o6], [.inl ((xs ((i + 2)).toNat)), .inl ((xs ((i + 1)).toNat)), .inr (.inl 30)], n91, D92, s93, p94, c95) _
        refine tt_k 4 (S' := (402, [some (.inr (.inl 1000004)), some (.inr (.inl 0)), some (.inr (.inl 30)), some (.inr (.inl 47)), some (.inl i), some (.inl r97), o6], [.inl (i + 3), .inr (.inl 1000004), .inl ((xs ((i + 2)).toNat)), .inl ((xs ((i + 1)).toNat)), .inr (.inl 30)], n91, D92, s93, p94, c95)) rfl ?_
        refine tt_stat (j := 4) (i := (i + 3)) rfl hs (by omega) ?_
        show tt Zi 12 0 (403, [some (.inr (.inl 1000004)), some (.inr (.inl 0)), some (.inr (.inl 30)), some (.inr (.inl 47)), some (.inl i), some (.inl r97), o6], [.inl ((xs ((i + 3)).toNat)), .inl ((xs ((i + 2)).toNat)), .inl ((xs ((i + 1)).toNat)), .inr (.inl 30)], n91, D92, s93, p94, c95) _
        refine tt_k 4 (S' := (408, [some (.inr (.inl 1000004)), some (.inr (.inl 0)), some (.inr (.inl 30)), some (.inr (.inl 47)), some (.inl i), some (.inl r97), o6], [.inl (i + 4), .inr (.inl 1000004), .inl ((xs ((i + 3)).toNat)), .inl ((xs ((i + 2)).toNat)), .inl ((xs ((i + 1)).toNat)), .inr (.inl 30)], n91, D92, s93, p94, c95)) rfl ?_
        refine tt_stat (j := 4) (i := (i + 4)) rfl hs (by omega) ?_
        show tt Zi 12 0 (409, [some (.inr (.inl 1000004)), some (.inr (.inl 0)), some (.inr (.inl 30)), some (.inr (.inl 47)), some (.inl i), some (.inl r97), o6], [.inl ((xs ((i + 4)).toNat)), .inl ((xs ((i + 3)).toNat)), .inl ((xs ((i + 2)).toNat)), .inl ((xs ((i + 1)).toNat)), .inr (.inl 30)], n91, D92, s93, p94, c95) _
        refine tt_k 4 (S' := (414, [some (.inr (.inl 1000004)), some (.inr (.inl 0)), some (.inr (.inl 30)), some (.inr (.inl 47)), some (.inl i), some (.inl r97), o6], [.inl (i + 5), .inr (.inl 1000004), .inl ((xs ((i + 4)).toNat)), .inl ((xs ((i + 3)).toNat)), .inl ((xs ((i + 2)).toNat)), .inl ((xs ((i + 1)).toNat)), .inr (.inl 30)], n91, D92, s93, p94, c95)) rfl ?_
        refine tt_stat (j := 4) (i := (i + 5)) rfl hs (by omega) ?_
        show tt Zi 12 0 (415, [some (.inr (.inl 1000004)), some (.inr (.inl 0)), some (.inr (.inl 30)), some (.inr (.inl 47)), some (.inl i), some (.inl r97), o6], [.inl ((xs ((i + 5)).toNat)), .inl ((xs ((i + 4)).toNat)), .inl ((xs ((i + 3)).toNat)), .inl ((xs ((i + 2)).toNat)), .inl ((xs ((i + 1)).toNat)), .inr (.inl 30)], n91, D92, s93, p94, c95) _
        refine tt_cl (by omega) rfl (k_measures3 (Zi := Zi) (D := D92) (s := s93) (p := p94) (c := c95) (by omega) hS93 hC95 ((xs ((i + 1)).toNat)) ((xs ((i + 2)).toNat)) ((xs ((i + 3)).toNat)) ((xs ((i + 4)).toNat)) ((xs ((i + 5)).toNat)) (by omega) (by omega) (by omega) (by omega) (by omega)) ?_
        rintro _ _ ⟨s102, c103, rfl, rfl, hS102, hC103, f104, g105, k106, k107⟩
        have hW108 := wp_rf f104 (by decide) hW94
        show tt Zi 12 0 (418, [some (.inr (.inl 1000004)), some (.inr (.inl 0)), some (.inr (.inl 30)), some (.inr (.inl 47)), some (.inl i), some (.inl r97), o6], [], n91, D92, s102, p94, c103) _
        have te100 : s102 100 = (s93 100) := f104 100 (by decide)
        have te101 : s102 101 = (s93 101) := f104 101 (by decide)
        have te102 : s102 102 = (s93 102) := f104 102 (by decide)
        have te103 : s102 103 = (s93 103) := f104 103 (by decide)
        have te3001 : s102 3001 = (s93 3001) := f104 3001 (by decide)
        have te3002 : s102 3002 = (s93 3002) := f104 3002 (by decide)
        have te3003 : s102 3003 = (s93 3003) := f104 3003 (by decide)
        have te3004 : s102 3004 = (s93 3004) := f104 3004 (by decide)
        have ht2 : tie s102 := ⟨te100.trans (tc100.trans (ht.1.trans (tc3001.symm.trans te3001.symm))), te101.trans (tc101.trans (ht.2.1.trans (tc3002.symm.trans te3002.symm))), te102.trans (tc102.trans (ht.2.2.1.trans (tc3003.symm.trans te3003.symm))), te103.trans (tc103.trans (ht.2.2.2.trans (tc3004.symm.trans te3004.symm)))⟩
        have FKr := fk_rc FKc.1 g105 (by decide)
        have tS2 : tiS s102 p94 c103 := tiS_fk (tiS_fk ⟨E, hcE, hrE⟩ FKc (by decide) tc100 tc101 tc102) FKr (by decide) te100 te101 te102
        have q1 : tqC c103 := tqC_me hQ.1 FKc k99 k100 k101 g105 (tc3004.trans ht.2.2.2.symm) k107
        have q2 : tqW s102 := tqW_f (tqW_f hQ.2.1 FFc (by decide)) f104 (by decide)
        have q3 : tqP s102 p94 c103 := tqP_f hQ.2.2.1 FKc FKr (by decide) FFc (by decide) f104 (by decide)
        have q4 : tqT s102 := tqT_f (tqT_f hQ.2.2.2.1 FFc (by decide)) f104 (by decide)
        have q5 : tqB s102 p94 c103 := tqB_f hQ.2.2.2.2.1 FKc FKr (by decide) FFc (by decide) f104 (by decide)
        have q6 : tqU s102 p94 c103 := tqU_f hQ.2.2.2.2.2.1 FKc FKr (by decide) FFc (by decide) p8c f104 (by decide)
        have q7 : tqK p94 c103 := tqK_f ⟨KK, hK1, hK2⟩ FKc FKr (by decide)
        have tQ2 : tiQ s102 p94 c103 := ⟨q1, q2, q3, q4, q5, q6, q7⟩
        clear tc100 tc101 tc102 tc103 tc3001 tc3002 tc3003 tc3004 te100 te101 te102 te103 te3001 te3002 te3003 te3004
        refine tt_k 3 (S' := (23, [some (.inr (.inl 1000004)), some (.inr (.inl 0)), some (.inr (.inl 30)), some (.inr (.inl 47)), some (.inl (i + 9)), some (.inl r97), o6], [], n91, D92, s102, p94, c103)) rfl ?_
        exact ih (q + 1) (i + 9) (some (.inl r97)) (o6) (n91, D92, s102, p94, c103) ⟨hS102, hC103, (wp_rg hW108), FKr.1⟩ ht2 tS2 tQ2 (by omega) (by omega) (by omega) (by omega)
      by_cases h109 : (mi_and (xs (i).toNat) 15) = 4
      · have h110 := h109
        refine tt_tsw (x := (mi_and (xs (i).toNat) 15)) (off := 381) rfl (by omega) (by omega) (by rw [h109]; rfl) rfl ?_
        show tt Zi 12 0 (421, [some (.inr (.inl 1000004)), some (.inr (.inl 0)), some (.inr (.inl 30)), some (.inr (.inl 47)), some (.inl i), o5, o6], [], n, D, s, p, c) _
        refine tt_k 5 (S' := (427, [some (.inr (.inl 1000004)), some (.inr (.inl 0)), some (.inr (.inl 30)), some (.inr (.inl 47)), some (.inl i), o5, o6], [.inl (i + 1), .inr (.inl 1000004), .inr (.inl 0)], n, D, s, p, c)) rfl ?_
        refine tt_stat (j := 4) (i := (i + 1)) rfl hs (by omega) ?_
        show tt Zi 12 0 (428, [some (.inr (.inl 1000004)), some (.inr (.inl 0)), some (.inr (.inl 30)), some (.inr (.inl 47)), some (.inl i), o5, o6], [.inl ((xs ((i + 1)).toNat)), .inr (.inl 0)], n, D, s, p, c) _
        have b111 := hxs ((i + 1)).toNat
        refine tt_k 1 (S' := (429, [some (.inr (.inl 1000004)), some (.inr (.inl 0)), some (.inr (.inl 30)), some (.inr (.inl 47)), some (.inl i), o5, o6], [.inr (.inl 47), .inl ((xs ((i + 1)).toNat)), .inr (.inl 0)], n, D, s, p, c)) rfl ?_
        refine tt_cl (by omega) rfl (h_pack (Zi := Zi) (q := q) (n := n) (D := D) (s := s) (p := p) (c := c) (by omega) hz (by omega) hD hS hC (wp_rg hW) E ((xs ((i + 1)).toNat)) (by omega) hcE hQ.2.1) ?_
        rintro _ ⟨n112, D113, s114, p115, c116⟩ ⟨r118, rfl, b119, hY117, k120, k121, k122, k123, k124, k125, k126, k127, k128⟩
        have p8c : p115 8 = p 8 := (hY117).2
        have hS114 : bS s114 := (hY117).1.1
        have hC116 : bC D113 c116 := (hY117).1.2.1
        have hW115 : wp _ _ n112 D113 p115 s114 := (hY117).1.2.2.1
        have FKc : fk p c n112 p115 c116 [47, 400, 900, 901, 1203, 1204] := (hY117).1.2.2.2.1
        have FFc : fr s s114 [401, 800, 801, 802, 803, 804, 805, 806, 807, 808, 809, 902, 1206, 1207, 1208, 1209, 1210, 1211, 1212, 1213, 1214, 1215, 1216, 1601, 1602] := (hY117).1.2.2.2.2
        replace k120 : r118 = 0 → ((VM (c 3 0) (c 3 1) (c 3 2) (c 3 3) (c 3 4) (s 103) ((xs ((i + 1)).toNat))) ∧ AB E (s 100) (s 101) (s 102) (zMo (c 3 0) (s 103))) := k120
        replace k121 : r118 ≠ 0 → ¬ ((VM (c 3 0) (c 3 1) (c 3 2) (c 3 3) (c 3 4) (s 103) ((xs ((i + 1)).toNat))) ∧ AB E (s 100) (s 101) (s 102) (zMo (c 3 0) (s 103))) := k121
        replace k122 : r118 = 0 → c116 47 0 = s114 401 := k122
        replace k123 : r118 = 0 → wrl (PK (c 3 0) (c 3 1) (c 3 2) (c 3 3) (c 3 4) (s 100) (s 101) (s 102) (s 103) ((xs ((i + 1)).toNat)) E) (s114 401) 0 8 (c116 (p115 400)) := k123
        replace k124 : r118 = 0 → s114 1601 = 0 ∧ s114 1602 = 8 := k124
        replace k125 : r118 ≠ 0 → s114 401 = s 401 ∧ s114 1601 = s 1601 ∧ s114 1602 = s 1602 := k125
        replace k126 : r118 = 0 ∨ r118 = 1 := k126
        replace k127 : r118 ≠ 0 → fk p c n112 p115 c116 [] := k127
        replace k128 : r118 = 0 → mrk (pKp (ZM (c 3 0) (c 3 1) (c 3 2) (c 3 3) (c 3 4) (s 103) ((xs ((i + 1)).toNat))) (s 100) (s 101) E ((xs ((i + 1)).toNat)) (s 102).toNat 0 (pMs (c 3 0) (c 3 1) (c 3 2) (c 3 3) (c 3 4) (pFm (s 100) (s 101) (s 102) (s 103) (pMk W00 216))) (kOf (c (p 900)))) (c116 (p115 900)) := k128
        show tt Zi 12 0 (432, [some (.inr (.inl 1000004)), some (.inr (.inl 0)), some (.inr (.inl 30)), some (.inr (.inl 47)), some (.inl i), o5, o6], [.inl r118], n112, D113, s114, p115, c116) _
        have tc100 : s114 100 = (s 100) := hW115.gz 100 rfl
        have tc101 : s114 101 = (s 101) := hW115.gz 101 rfl
        have tc102 : s114 102 = (s 102) := hW115.gz 102 rfl
        have tc103 : s114 103 = (s 103) := hW115.gz 103 rfl
        have tc3001 : s114 3001 = (s 3001) := hW115.gz 3001 rfl
        have tc3002 : s114 3002 = (s 3002) := hW115.gz 3002 rfl
        have tc3003 : s114 3003 = (s 3003) := hW115.gz 3003 rfl
        have tc3004 : s114 3004 = (s 3004) := hW115.gz 3004 rfl
        refine tt_k 6 (S' := (440, [some (.inr (.inl 1000004)), some (.inr (.inl 0)), some (.inr (.inl 30)), some (.inr (.inl 47)), some (.inl i), some (.inl r118), o6], [.inl (i + 1), .inr (.inl 1000004), .inr (.inl 30)], n112, D113, s114, p115, c116)) rfl ?_
        refine tt_stat (j := 4) (i := (i + 1)) rfl hs (by omega) ?_
        show tt Zi 12 0 (441, [some (.inr (.inl 1000004)), some (.inr (.inl 0)), some (.inr (.inl 30)), some (.inr (.inl 47)), some (.inl i), some (.inl r118), o6], [.inl ((xs ((i + 1)).toNat)), .inr (.inl 30)], n112, D113, s114, p115, c116) _
        have eq3001 : (s114 3001) = s 100 := tc3001.trans ht.1.symm
        have eq3002 : (s114 3002) = s 101 := tc3002.trans ht.2.1.symm
        have eq3003 : (s114 3003) = s 102 := tc3003.trans ht.2.2.1.symm
        have eq3004 : (s114 3004) = s 103 := tc3004.trans ht.2.2.2.symm
        have hcr : cr E (s114 3001) (s114 3002) (s114 3003) (c116 31) := by rw [eq3001, eq3002, eq3003, fk_c (k := 31) FKc (by decide)]; exact hrE
        refine tt_cl (by omega) rfl (x_pack (Zi := Zi) (D := D113) (s := s114) (p := p115) (c := c116) (by omega) hS114 hC116 E ((xs ((i + 1)).toNat)) (by omega) hcr) ?_
        rintro _ _ ⟨s129, c130, r131, rfl, rfl, hS129, hC130, f132, g133, b134, k135⟩
        have hW136 := wp_rf f132 (by decide) hW115
        show tt Zi 12 0 (444, [some (.inr (.inl 1000004)), some (.inr (.inl 0)), some (.inr (.inl 30)), some (.inr (.inl 47)), some (.inl i), some (.inl r118), o6], [.inl r131], n112, D113, s129, p115, c130) _
        have te100 : s129 100 = (s114 100) := f132 100 (by decide)
        have te101 : s129 101 = (s114 101) := f132 101 (by decide)
        have te102 : s129 102 = (s114 102) := f132 102 (by decide)
        have te103 : s129 103 = (s114 103) := f132 103 (by decide)
        have te3001 : s129 3001 = (s114 3001) := f132 3001 (by decide)
        have te3002 : s129 3002 = (s114 3002) := f132 3002 (by decide)
        have te3003 : s129 3003 = (s114 3003) := f132 3003 (by decide)
        have te3004 : s129 3004 = (s114 3004) := f132 3004 (by decide)
        have ht2 : tie s129 := ⟨te100.trans (tc100.trans (ht.1.trans (tc3001.symm.trans te3001.symm))), te101.trans (tc101.trans (ht.2.1.trans (tc3002.symm.trans te3002.symm))), te102.trans (tc102.trans (ht.2.2.1.trans (tc3003.symm.trans te3003.symm))), te103.trans (tc103.trans (ht.2.2.2.trans (tc3004.symm.trans te3004.symm)))⟩
        have FKr := fk_rc FKc.1 g133 (by decide)
        have tS2 : tiS s129 p115 c130 := tiS_fk (tiS_fk ⟨E, hcE, hrE⟩ FKc (by decide) tc100 tc101 tc102) FKr (by decide) te100 te101 te102
        have q1 : tqC c130 := tqC_f hQ.1 FKc FKr (by decide)
        have q2 : tqW s129 := tqW_f (show tqW s114 from if e0 : r118 = 0 then k124 e0 else ⟨(k125 e0).2.1.trans hQ.2.1.1, (k125 e0).2.2.trans hQ.2.1.2⟩) f132 (by decide)
        have er0 : c116 32 0 = c 3 0 := by rw [fk_c (k := 32) FKc (by decide)]; exact (hQ.1 0 (by decide)).symm
        have er1 : c116 32 1 = c 3 1 := by rw [fk_c (k := 32) FKc (by decide)]; exact (hQ.1 1 (by decide)).symm
        have er2 : c116 32 2 = c 3 2 := by rw [fk_c (k := 32) FKc (by decide)]; exact (hQ.1 2 (by decide)).symm
        have er3 : c116 32 3 = c 3 3 := by rw [fk_c (k := 32) FKc (by decide)]; exact (hQ.1 3 (by decide)).symm
        have er4 : c116 32 4 = c 3 4 := by rw [fk_c (k := 32) FKc (by decide)]; exact (hQ.1 4 (by decide)).symm
        have kp := k135
        rw [er0, er1, er2, er3, er4, eq3001, eq3002, eq3003, eq3004] at kp
        have kp0 := kp.imp (fun h => (⟨h.1, h.2.1, h.2.2.1, h.2.2.2.1⟩ : _ ∧ _ ∧ _ ∧ _)) (fun h => (⟨h.1, h.2.1, h.2.2.1, h.2.2.2.1⟩ : _ ∧ _ ∧ _ ∧ _))
        have hqp := pk_q k126 k120 k121 k122 k123 kp0
        rw [← show c130 47 = c116 47 from g133 47 (by decide)] at hqp
        have q3 : tqP s129 p115 c130 := tqP_pk hQ.2.2.1 FKc FKr FFc (by decide) k120 k121 k123 k125 k127 kp0 f132 (by decide)
        have q7 : tqK p115 c130 := tqK_pk ⟨KK, hK1, hK2⟩ hqp.1 k128 k127 kp (by have h : 1 ≤ s 102 ∧ s 102 ≤ 3 := hS 102; omega) FKr (by decide)
        clear kp0 kp k135 k120 k121 k122 k123 k124 k125 k126 k127 k128 eq3001 eq3002 eq3003 eq3004 er0 er1 er2 er3 er4
        have q4 : tqT s129 := tqT_f (tqT_f hQ.2.2.2.1 FFc (by decide)) f132 (by decide)
        have q5 : tqB s129 p115 c130 := tqB_f hQ.2.2.2.2.1 FKc FKr (by decide) FFc (by decide) f132 (by decide)
        have q6 : tqU s129 p115 c130 := tqU_f hQ.2.2.2.2.2.1 FKc FKr (by decide) FFc (by decide) p8c f132 (by decide)
        have tQ2 : tiQ s129 p115 c130 := ⟨q1, q2, q3, q4, q5, q6, q7⟩
        clear tc100 tc101 tc102 tc103 tc3001 tc3002 tc3003 tc3004 te100 te101 te102 te103 te3001 te3002 te3003 te3004
        refine tt_k 4 (S' := (23, [some (.inr (.inl 1000004)), some (.inr (.inl 0)), some (.inr (.inl 30)), some (.inr (.inl 47)), some (.inl (i + 9)), some (.inl r118), some (.inl r131)], [], n112, D113, s129, p115, c130)) rfl ?_
        exact ih (q + 1) (i + 9) (some (.inl r118)) (some (.inl r131)) (n112, D113, s129, p115, c130) ⟨hS129, hC130, (wp_rg hW136), FKr.1⟩ ht2 tS2 tQ2 (by omega) (by omega) (by omega) (by omega)
      by_cases h137 : (mi_and (xs (i).toNat) 15) = 5
      · have h138 := h137
        refine tt_tsw (x := (mi_and (xs (i).toNat) 15)) (off := 409) rfl (by omega) (by omega) (by rw [h137]; rfl) rfl ?_
        show tt Zi 12 0 (449, [some (.inr (.inl 1000004)), some (.inr (.inl 0)), some (.inr (.inl 30)), some (.inr (.inl 47)), some (.inl i), o5, o6], [], n, D, s, p, c) _
        refine tt_k 1 (S' := (450, [some (.inr (.inl 1000004)), some (.inr (.inl 0)), some (.inr (.inl 30)), some (.inr (.inl 47)), some (.inl i), o5, o6], [.inr (.inl 0)], n, D, s, p, c)) rfl ?_
        refine tt_cl (by omega) rfl (e_size (Zi := Zi) (q := q) (n := n) (D := D) (s := s) (p := p) (c := c) (by omega) hz (by omega) hD hS hC (wp_rg hW) ) ?_
        rintro _ ⟨n139, D140, s141, p142, c143⟩ ⟨r145, rfl, b146, hY144, k147⟩
        have p8c : p142 8 = p 8 := (hY144).2
        have hS141 : bS s141 := (hY144).1.1
        have hC143 : bC D140 c143 := (hY144).1.2.1
        have hW142 : wp _ _ n139 D140 p142 s141 := (hY144).1.2.2.1
        have FKc : fk p c n139 p142 c143 [] := (hY144).1.2.2.2.1
        have FFc : fr s s141 [] := (hY144).1.2.2.2.2
        replace k147 : r145 = s 401 := k147
        show tt Zi 12 0 (453, [some (.inr (.inl 1000004)), some (.inr (.inl 0)), some (.inr (.inl 30)), some (.inr (.inl 47)), some (.inl i), o5, o6], [.inl r145], n139, D140, s141, p142, c143) _
        have tc100 : s141 100 = (s 100) := hW142.gz 100 rfl
        have tc101 : s141 101 = (s 101) := hW142.gz 101 rfl
        have tc102 : s141 102 = (s 102) := hW142.gz 102 rfl
        have tc103 : s141 103 = (s 103) := hW142.gz 103 rfl
        have tc3001 : s141 3001 = (s 3001) := hW142.gz 3001 rfl
        have tc3002 : s141 3002 = (s 3002) := hW142.gz 3002 rfl
        have tc3003 : s141 3003 = (s 3003) := hW142.gz 3003 rfl
        have tc3004 : s141 3004 = (s 3004) := hW142.gz 3004 rfl
        refine tt_k 2 (S' := (455, [some (.inr (.inl 1000004)), some (.inr (.inl 0)), some (.inr (.inl 30)), some (.inr (.inl 47)), some (.inl i), o5, o6], [.inr (.inl 30)], n139, D140, s141, p142, c143)) rfl ?_
        refine tt_cl (by omega) rfl (k_size (Zi := Zi) (D := D140) (s := s141) (p := p142) (c := c143) (by omega) hS141 hC143 ) ?_
        rintro _ _ ⟨s148, r149, rfl, rfl, hS148, f150, b151, k152, k153⟩
        have hW154 := wp_rf f150 (by decide) hW142
        show tt Zi 12 0 (458, [some (.inr (.inl 1000004)), some (.inr (.inl 0)), some (.inr (.inl 30)), some (.inr (.inl 47)), some (.inl i), o5, o6], [.inl r149], n139, D140, s148, p142, c143) _
        have te100 : s148 100 = (s141 100) := f150 100 (by decide)
        have te101 : s148 101 = (s141 101) := f150 101 (by decide)
        have te102 : s148 102 = (s141 102) := f150 102 (by decide)
        have te103 : s148 103 = (s141 103) := f150 103 (by decide)
        have te3001 : s148 3001 = (s141 3001) := f150 3001 (by decide)
        have te3002 : s148 3002 = (s141 3002) := f150 3002 (by decide)
        have te3003 : s148 3003 = (s141 3003) := f150 3003 (by decide)
        have te3004 : s148 3004 = (s141 3004) := f150 3004 (by decide)
        have ht2 : tie s148 := ⟨te100.trans (tc100.trans (ht.1.trans (tc3001.symm.trans te3001.symm))), te101.trans (tc101.trans (ht.2.1.trans (tc3002.symm.trans te3002.symm))), te102.trans (tc102.trans (ht.2.2.1.trans (tc3003.symm.trans te3003.symm))), te103.trans (tc103.trans (ht.2.2.2.trans (tc3004.symm.trans te3004.symm)))⟩
        have FKr := fk_rf (c := c143) (K := []) FKc.1
        have tS2 : tiS s148 p142 c143 := tiS_fk (tiS_fk ⟨E, hcE, hrE⟩ FKc (by decide) tc100 tc101 tc102) FKr (by decide) te100 te101 te102
        have q1 : tqC c143 := tqC_f hQ.1 FKc FKr (by decide)
        have q2 : tqW s148 := tqW_f (tqW_f hQ.2.1 FFc (by decide)) f150 (by decide)
        have q3 : tqP s148 p142 c143 := tqP_f hQ.2.2.1 FKc FKr (by decide) FFc (by decide) f150 (by decide)
        have q4 : tqT s148 := tqT_f (tqT_f hQ.2.2.2.1 FFc (by decide)) f150 (by decide)
        have q5 : tqB s148 p142 c143 := tqB_f hQ.2.2.2.2.1 FKc FKr (by decide) FFc (by decide) f150 (by decide)
        have hqs : r145 = r149 := sz_q hQ.2.2.1 FFc (by decide) k147 k152
        have q6 : tqU s148 p142 c143 := tqU_f hQ.2.2.2.2.2.1 FKc FKr (by decide) FFc (by decide) p8c f150 (by decide)
        have q7 : tqK p142 c143 := tqK_f ⟨KK, hK1, hK2⟩ FKc FKr (by decide)
        have tQ2 : tiQ s148 p142 c143 := ⟨q1, q2, q3, q4, q5, q6, q7⟩
        clear tc100 tc101 tc102 tc103 tc3001 tc3002 tc3003 tc3004 te100 te101 te102 te103 te3001 te3002 te3003 te3004
        refine tt_k 4 (S' := (23, [some (.inr (.inl 1000004)), some (.inr (.inl 0)), some (.inr (.inl 30)), some (.inr (.inl 47)), some (.inl (i + 9)), o5, o6], [], n139, D140, s148, p142, c143)) rfl ?_
        exact ih (q + 1) (i + 9) (o5) (o6) (n139, D140, s148, p142, c143) ⟨hS148, hC143, (wp_rg hW154), FKr.1⟩ ht2 tS2 tQ2 (by omega) (by omega) (by omega) (by omega)
      by_cases h155 : (mi_and (xs (i).toNat) 15) = 6
      · have h156 := h155
        refine tt_tsw (x := (mi_and (xs (i).toNat) 15)) (off := 422) rfl (by omega) (by omega) (by rw [h155]; rfl) rfl ?_
        show tt Zi 12 0 (462, [some (.inr (.inl 1000004)), some (.inr (.inl 0)), some (.inr (.inl 30)), some (.inr (.inl 47)), some (.inl i), o5, o6], [], n, D, s, p, c) _
        refine tt_k 5 (S' := (468, [some (.inr (.inl 1000004)), some (.inr (.inl 0)), some (.inr (.inl 30)), some (.inr (.inl 47)), some (.inl i), o5, o6], [.inl (i + 1), .inr (.inl 1000004), .inr (.inl 0)], n, D, s, p, c)) rfl ?_
        refine tt_stat (j := 4) (i := (i + 1)) rfl hs (by omega) ?_
        show tt Zi 12 0 (469, [some (.inr (.inl 1000004)), some (.inr (.inl 0)), some (.inr (.inl 30)), some (.inr (.inl 47)), some (.inl i), o5, o6], [.inl ((xs ((i + 1)).toNat)), .inr (.inl 0)], n, D, s, p, c) _
        have b157 := hxs ((i + 1)).toNat
        refine tt_k 1 (S' := (470, [some (.inr (.inl 1000004)), some (.inr (.inl 0)), some (.inr (.inl 30)), some (.inr (.inl 47)), some (.inl i), o5, o6], [.inr (.inl 47), .inl ((xs ((i + 1)).toNat)), .inr (.inl 0)], n, D, s, p, c)) rfl ?_
        refine tt_cl (by omega) rfl (h_out (Zi := Zi) (q := q) (n := n) (D := D) (s := s) (p := p) (c := c) (by omega) hz (by omega) hD hS hC (wp_rg hW) ((xs ((i + 1)).toNat)) (by omega)) ?_
        rintro _ ⟨n158, D159, s160, p161, c162⟩ ⟨r164, rfl, b165, hY163, k166, k167⟩
        have p8c : p161 8 = p 8 := (hY163).2
        have hS160 : bS s160 := (hY163).1.1
        have hC162 : bC D159 c162 := (hY163).1.2.1
        have hW161 : wp _ _ n158 D159 p161 s160 := (hY163).1.2.2.1
        have FKc : fk p c n158 p161 c162 [47] := (hY163).1.2.2.2.1
        have FFc : fr s s160 [800, 801, 802, 803, 804, 805, 806, 807, 808, 809] := (hY163).1.2.2.2.2
        replace k166 : r164 = 0 → (0 ≤ ((xs ((i + 1)).toNat)) ∧ ((xs ((i + 1)).toNat)) < s 401) ∧ c162 47 0 = mi_and (c (p 400) ((xs ((i + 1)).toNat)).toNat) 255 := k166
        replace k167 : r164 ≠ 0 → r164 = 1 ∧ ¬ (0 ≤ ((xs ((i + 1)).toNat)) ∧ ((xs ((i + 1)).toNat)) < s 401) := k167
        show tt Zi 12 0 (473, [some (.inr (.inl 1000004)), some (.inr (.inl 0)), some (.inr (.inl 30)), some (.inr (.inl 47)), some (.inl i), o5, o6], [.inl r164], n158, D159, s160, p161, c162) _
        have tc100 : s160 100 = (s 100) := hW161.gz 100 rfl
        have tc101 : s160 101 = (s 101) := hW161.gz 101 rfl
        have tc102 : s160 102 = (s 102) := hW161.gz 102 rfl
        have tc103 : s160 103 = (s 103) := hW161.gz 103 rfl
        have tc3001 : s160 3001 = (s 3001) := hW161.gz 3001 rfl
        have tc3002 : s160 3002 = (s 3002) := hW161.gz 3002 rfl
        have tc3003 : s160 3003 = (s 3003) := hW161.gz 3003 rfl
        have tc3004 : s160 3004 = (s 3004) := hW161.gz 3004 rfl
        refine tt_k 6 (S' := (481, [some (.inr (.inl 1000004)), some (.inr (.inl 0)), some (.inr (.inl 30)), some (.inr (.inl 47)), some (.inl i), some (.inl r164), o6], [.inl (i + 1), .inr (.inl 1000004), .inr (.inl 30)], n158, D159, s160, p161, c162)) rfl ?_
        refine tt_stat (j := 4) (i := (i + 1)) rfl hs (by omega) ?_
        show tt Zi 12 0 (482, [some (.inr (.inl 1000004)), some (.inr (.inl 0)), some (.inr (.inl 30)), some (.inr (.inl 47)), some (.inl i), some (.inl r164), o6], [.inl ((xs ((i + 1)).toNat)), .inr (.inl 30)], n158, D159, s160, p161, c162) _
        refine tt_cl (by omega) rfl (k_out3 (Zi := Zi) (D := D159) (s := s160) (p := p161) (c := c162) (by omega) hS160 hC162 ((xs ((i + 1)).toNat)) (by omega)) ?_
        rintro _ _ ⟨s168, r169, rfl, rfl, hS168, f170, b171, k172, k173⟩
        have hW174 := wp_rf f170 (by decide) hW161
        show tt Zi 12 0 (485, [some (.inr (.inl 1000004)), some (.inr (.inl 0)), some (.inr (.inl 30)), some (.inr (.inl 47)), some (.inl i), some (.inl r164), o6], [.inl r169], n158, D159, s168, p161, c162) _
        have te100 : s168 100 = (s160 100) := f170 100 (by decide)
        have te101 : s168 101 = (s160 101) := f170 101 (by decide)
        have te102 : s168 102 = (s160 102) := f170 102 (by decide)
        have te103 : s168 103 = (s160 103) := f170 103 (by decide)
        have te3001 : s168 3001 = (s160 3001) := f170 3001 (by decide)
        have te3002 : s168 3002 = (s160 3002) := f170 3002 (by decide)
        have te3003 : s168 3003 = (s160 3003) := f170 3003 (by decide)
        have te3004 : s168 3004 = (s160 3004) := f170 3004 (by decide)
        have ht2 : tie s168 := ⟨te100.trans (tc100.trans (ht.1.trans (tc3001.symm.trans te3001.symm))), te101.trans (tc101.trans (ht.2.1.trans (tc3002.symm.trans te3002.symm))), te102.trans (tc102.trans (ht.2.2.1.trans (tc3003.symm.trans te3003.symm))), te103.trans (tc103.trans (ht.2.2.2.trans (tc3004.symm.trans te3004.symm)))⟩
        have FKr := fk_rf (c := c162) (K := []) FKc.1
        have tS2 : tiS s168 p161 c162 := tiS_fk (tiS_fk ⟨E, hcE, hrE⟩ FKc (by decide) tc100 tc101 tc102) FKr (by decide) te100 te101 te102
        have q1 : tqC c162 := tqC_f hQ.1 FKc FKr (by decide)
        have q2 : tqW s168 := tqW_f (tqW_f hQ.2.1 FFc (by decide)) f170 (by decide)
        have q3 : tqP s168 p161 c162 := tqP_f hQ.2.2.1 FKc FKr (by decide) FFc (by decide) f170 (by decide)
        have q4 : tqT s168 := tqT_f (tqT_f hQ.2.2.2.1 FFc (by decide)) f170 (by decide)
        have q5 : tqB s168 p161 c162 := tqB_f hQ.2.2.2.2.1 FKc FKr (by decide) FFc (by decide) f170 (by decide)
        have hqo := ou_q hQ.2.2.1 FKc (by decide) FFc (by decide) k166 k167 k172 k173
        have q6 : tqU s168 p161 c162 := tqU_f hQ.2.2.2.2.2.1 FKc FKr (by decide) FFc (by decide) p8c f170 (by decide)
        have q7 : tqK p161 c162 := tqK_f ⟨KK, hK1, hK2⟩ FKc FKr (by decide)
        have tQ2 : tiQ s168 p161 c162 := ⟨q1, q2, q3, q4, q5, q6, q7⟩
        clear tc100 tc101 tc102 tc103 tc3001 tc3002 tc3003 tc3004 te100 te101 te102 te103 te3001 te3002 te3003 te3004
        refine tt_k 4 (S' := (23, [some (.inr (.inl 1000004)), some (.inr (.inl 0)), some (.inr (.inl 30)), some (.inr (.inl 47)), some (.inl (i + 9)), some (.inl r164), some (.inl r169)], [], n158, D159, s168, p161, c162)) rfl ?_
        exact ih (q + 1) (i + 9) (some (.inl r164)) (some (.inl r169)) (n158, D159, s168, p161, c162) ⟨hS168, hC162, (wp_rg hW174), FKr.1⟩ ht2 tS2 tQ2 (by omega) (by omega) (by omega) (by omega)
      by_cases h175 : (mi_and (xs (i).toNat) 15) = 7
      · have h176 := h175
        refine tt_tsw (x := (mi_and (xs (i).toNat) 15)) (off := 450) rfl (by omega) (by omega) (by rw [h175]; rfl) rfl ?_
        show tt Zi 12 0 (490, [some (.inr (.inl 1000004)), some (.inr (.inl 0)), some (.inr (.inl 30)), some (.inr (.inl 47)), some (.inl i), o5, o6], [], n, D, s, p, c) _
        refine tt_k 5 (S' := (496, [some (.inr (.inl 1000004)), some (.inr (.inl 0)), some (.inr (.inl 30)), some (.inr (.inl 47)), some (.inl i), o5, o6], [.inl (i + 1), .inr (.inl 1000004), .inr (.inl 0)], n, D, s, p, c)) rfl ?_
        refine tt_stat (j := 4) (i := (i + 1)) rfl hs (by omega) ?_
        show tt Zi 12 0 (497, [some (.inr (.inl 1000004)), some (.inr (.inl 0)), some (.inr (.inl 30)), some (.inr (.inl 47)), some (.inl i), o5, o6], [.inl ((xs ((i + 1)).toNat)), .inr (.inl 0)], n, D, s, p, c) _
        have b177 := hxs ((i + 1)).toNat
        refine tt_k 4 (S' := (502, [some (.inr (.inl 1000004)), some (.inr (.inl 0)), some (.inr (.inl 30)), some (.inr (.inl 47)), some (.inl i), o5, o6], [.inl (i + 2), .inr (.inl 1000004), .inl ((xs ((i + 1)).toNat)), .inr (.inl 0)], n, D, s, p, c)) rfl ?_
        refine tt_stat (j := 4) (i := (i + 2)) rfl hs (by omega) ?_
        show tt Zi 12 0 (503, [some (.inr (.inl 1000004)), some (.inr (.inl 0)), some (.inr (.inl 30)), some (.inr (.inl 47)), some (.inl i), o5, o6], [.inl ((xs ((i + 2)).toNat)), .inl ((xs ((i + 1)).toNat)), .inr (.inl 0)], n, D, s, p, c) _
        have b178 := hxs ((i + 2)).toNat
        refine tt_k 4 (S' := (508, [some (.inr (.inl 1000004)), some (.inr (.inl 0)), some (.inr (.inl 30)), some (.inr (.inl 47)), some (.inl i), o5, o6], [.inl (i + 3), .inr (.inl 1000004), .inl ((xs ((i + 2)).toNat)), .inl ((xs ((i + 1)).toNat)), .inr (.inl 0)], n, D, s, p, c)) rfl ?_
        refine tt_stat (j := 4) (i := (i + 3)) rfl hs (by omega) ?_
        show tt Zi 12 0 (509, [some (.inr (.inl 1000004)), some (.inr (.inl 0)), some (.inr (.inl 30)), some (.inr (.inl 47)), some (.inl i), o5, o6], [.inl ((xs ((i + 3)).toNat)), .inl ((xs ((i + 2)).toNat)), .inl ((xs ((i + 1)).toNat)), .inr (.inl 0)], n, D, s, p, c) _
        have b179 := hxs ((i + 3)).toNat
        refine tt_k 4 (S' := (514, [some (.inr (.inl 1000004)), some (.inr (.inl 0)), some (.inr (.inl 30)), some (.inr (.inl 47)), some (.inl i), o5, o6], [.inl (i + 4), .inr (.inl 1000004), .inl ((xs ((i + 3)).toNat)), .inl ((xs ((i + 2)).toNat)), .inl ((xs ((i + 1)).toNat)), .inr (.inl 0)], n, D, s, p, c)) rfl ?_
        refine tt_stat (j := 4) (i := (i + 4)) rfl hs (by omega) ?_
        show tt Zi 12 0 (515, [some (.inr (.inl 1000004)), some (.inr (.inl 0)), some (.inr (.inl 30)), some (.inr (.inl 47)), some (.inl i), o5, o6], [.inl ((xs ((i + 4)).toNat)), .inl ((xs ((i + 3)).toNat)), .inl ((xs ((i + 2)).toNat)), .inl ((xs ((i + 1)).toNat)), .inr (.inl 0)], n, D, s, p, c) _
        have b180 := hxs ((i + 4)).toNat
        refine tt_k 4 (S' := (520, [some (.inr (.inl 1000004)), some (.inr (.inl 0)), some (.inr (.inl 30)), some (.inr (.inl 47)), some (.inl i), o5, o6], [.inl (i + 5), .inr (.inl 1000004), .inl ((xs ((i + 4)).toNat)), .inl ((xs ((i + 3)).toNat)), .inl ((xs ((i + 2)).toNat)), .inl ((xs ((i + 1)).toNat)), .inr (.inl 0)], n, D, s, p, c)) rfl ?_
        refine tt_stat (j := 4) (i := (i + 5)) rfl hs (by omega) ?_
        show tt Zi 12 0 (521, [some (.inr (.inl 1000004)), some (.inr (.inl 0)), some (.inr (.inl 30)), some (.inr (.inl 47)), some (.inl i), o5, o6], [.inl ((xs ((i + 5)).toNat)), .inl ((xs ((i + 4)).toNat)), .inl ((xs ((i + 3)).toNat)), .inl ((xs ((i + 2)).toNat)), .inl ((xs ((i + 1)).toNat)), .inr (.inl 0)], n, D, s, p, c) _
        have b181 := hxs ((i + 5)).toNat
        refine tt_k 1 (S' := (522, [some (.inr (.inl 1000004)), some (.inr (.inl 0)), some (.inr (.inl 30)), some (.inr (.inl 47)), some (.inl i), o5, o6], [.inr (.inl 47), .inl ((xs ((i + 5)).toNat)), .inl ((xs ((i + 4)).toNat)), .inl ((xs ((i + 3)).toNat)), .inl ((xs ((i + 2)).toNat)), .inl ((xs ((i + 1)).toNat)), .inr (.inl 0)], n, D, s, p, c)) rfl ?_
        refine tt_cl (by omega) rfl (h_feed (Zi := Zi) (q := q) (n := n) (D := D) (s := s) (p := p) (c := c) (by omega) hz (by omega) hD hS hC (wp_rg hW) (c (p 600), s 601, 0, 8) ((xs ((i + 1)).toNat)) ((xs ((i + 2)).toNat)) ((xs ((i + 3)).toNat)) ((xs ((i + 4)).toNat)) ((xs ((i + 5)).toNat)) (by omega) (by omega) (by omega) (by omega) (by omega) ⟨rfl, fun _ _ => rfl⟩) ?_
        rintro _ ⟨n182, D183, s184, p185, c186⟩ ⟨r188, rfl, b189, hY187, k190, k191, k192, k193⟩
        have p8c : p185 8 = p 8 := (hY187).2
        have hS184 : bS s184 := (hY187).1.1
        have hC186 : bC D183 c186 := (hY187).1.2.1
        have hW185 : wp _ _ n182 D183 p185 s184 := (hY187).1.2.2.1
        have FKc : fk p c n182 p185 c186 [47, 600] := (hY187).1.2.2.2.1
        have FFc : fr s s184 [601, 800, 801, 802, 803, 804, 805, 806, 807, 808, 809] := (hY187).1.2.2.2.2
        replace k190 : r188 = 0 → s 601 + 20 ≤ 32768 ∧ s184 601 = s 601 + 20 ∧ c186 47 0 = s 601 + 20 := k190
        replace k191 : r188 ≠ 0 → r188 = 1 ∧ ¬ (s 601 + 20 ≤ 32768) ∧ s184 601 = s 601 := k191
        replace k192 : r188 = 0 → wrt (pTy 4 ((xs ((i + 5)).toNat)) (pTy 4 ((xs ((i + 4)).toNat)) (pTy 4 ((xs ((i + 3)).toNat)) (pTy 4 ((xs ((i + 2)).toNat)) (pTy 4 ((xs ((i + 1)).toNat)) (c (p 600), s 601, 0, 8)))))) (s184 601) (c186 (p185 600)) := k192
        replace k193 : r188 ≠ 0 → fk p c n182 p185 c186 [] := k193
        show tt Zi 12 0 (525, [some (.inr (.inl 1000004)), some (.inr (.inl 0)), some (.inr (.inl 30)), some (.inr (.inl 47)), some (.inl i), o5, o6], [.inl r188], n182, D183, s184, p185, c186) _
        have tc100 : s184 100 = (s 100) := hW185.gz 100 rfl
        have tc101 : s184 101 = (s 101) := hW185.gz 101 rfl
        have tc102 : s184 102 = (s 102) := hW185.gz 102 rfl
        have tc103 : s184 103 = (s 103) := hW185.gz 103 rfl
        have tc3001 : s184 3001 = (s 3001) := hW185.gz 3001 rfl
        have tc3002 : s184 3002 = (s 3002) := hW185.gz 3002 rfl
        have tc3003 : s184 3003 = (s 3003) := hW185.gz 3003 rfl
        have tc3004 : s184 3004 = (s 3004) := hW185.gz 3004 rfl
        refine tt_k 6 (S' := (533, [some (.inr (.inl 1000004)), some (.inr (.inl 0)), some (.inr (.inl 30)), some (.inr (.inl 47)), some (.inl i), some (.inl r188), o6], [.inl (i + 1), .inr (.inl 1000004), .inr (.inl 30)], n182, D183, s184, p185, c186)) rfl ?_
        refine tt_stat (j := 4) (i := (i + 1)) rfl hs (by omega) ?_
        show tt Zi 12 0 (534, [some (.inr (.inl 1000004)), some (.inr (.inl 0)), some (.inr (.inl 30)), some (.inr (.inl 47)), some (.inl i), some (.inl r188), o6], [.inl ((xs ((i + 1)).toNat)), .inr (.inl 30)], n182, D183, s184, p185, c186) _
        refine tt_k 4 (S' := (539, [some (.inr (.inl 1000004)), some (.inr (.inl 0)), some (.inr (.inl 30)), some (.inr (.inl 47)), some (.inl i), some (.inl r188), o6], [.inl (i + 2), .inr (.inl 1000004), .inl ((xs ((i + 1)).toNat)), .inr (.inl 30)], n182, D183, s184, p185, c186)) rfl ?_
        refine tt_stat (j := 4) (i := (i + 2)) rfl hs (by omega) ?_
        show tt Zi 12 0 (540, [some (.inr (.inl 1000004)), some (.inr (.inl 0)), some (.inr (.inl 30)), some (.inr (.inl 47)), some (.inl i), some (.inl r188), o6], [.inl ((xs ((i + 2)).toNat)), .inl ((xs ((i + 1)).toNat)), .inr (.inl 30)], n182, D183, s184, p185, c186) _
        refine tt_k 4 (S' := (545, [some (.inr (.inl 1000004)), some (.inr (.inl 0)), some (.inr (.inl 30)), some (.inr (.inl 47)), some (.inl i), some (.inl r188), o6], [.inl (i + 3), .inr (.inl 1000004), .inl ((xs ((i + 2)).toNat)), .inl ((xs ((i + 1)).toNat)), .inr (.inl 30)], n182, D183, s184, p185, c186)) rfl ?_
        refine tt_stat (j := 4) (i := (i + 3)) rfl hs (by omega) ?_
        show tt Zi 12 0 (546, [some (.inr (.inl 1000004)), some (.inr (.inl 0)), some (.inr (.inl 30)), some (.inr (.inl 47)), some (.inl i), some (.inl r188), o6], [.inl ((xs ((i + 3)).toNat)), .inl ((xs ((i + 2)).toNat)), .inl ((xs ((i + 1)).toNat)), .inr (.inl 30)], n182, D183, s184, p185, c186) _
        refine tt_k 4 (S' := (551, [some (.inr (.inl 1000004)), some (.inr (.inl 0)), some (.inr (.inl 30)), some (.inr (.inl 47)), some (.inl i), some (.inl r188), o6], [.inl (i + 4), .inr (.inl 1000004), .inl ((xs ((i + 3)).toNat)), .inl ((xs ((i + 2)).toNat)), .inl ((xs ((i + 1)).toNat)), .inr (.inl 30)], n182, D183, s184, p185, c186)) rfl ?_
        refine tt_stat (j := 4) (i := (i + 4)) rfl hs (by omega) ?_
        show tt Zi 12 0 (552, [some (.inr (.inl 1000004)), some (.inr (.inl 0)), some (.inr (.inl 30)), some (.inr (.inl 47)), some (.inl i), some (.inl r188), o6], [.inl ((xs ((i + 4)).toNat)), .inl ((xs ((i + 3)).toNat)), .inl ((xs ((i + 2)).toNat)), .inl ((xs ((i + 1)).toNat)), .inr (.inl 30)], n182, D183, s184, p185, c186) _
        refine tt_k 4 (S' := (557, [some (.inr (.inl 1000004)), some (.inr (.inl 0)), some (.inr (.inl 30)), some (.inr (.inl 47)), some (.inl i), some (.inl r188), o6], [.inl (i + 5), .inr (.inl 1000004), .inl ((xs ((i + 4)).toNat)), .inl ((xs ((i + 3)).toNat)), .inl ((xs ((i + 2)).toNat)), .inl ((xs ((i + 1)).toNat)), .inr (.inl 30)], n182, D183, s184, p185, c186)) rfl ?_
        refine tt_stat (j := 4) (i := (i + 5)) rfl hs (by omega) ?_
        show tt Zi 12 0 (558, [some (.inr (.inl 1000004)), some (.inr (.inl 0)), some (.inr (.inl 30)), some (.inr (.inl 47)), some (.inl i), some (.inl r188), o6], [.inl ((xs ((i + 5)).toNat)), .inl ((xs ((i + 4)).toNat)), .inl ((xs ((i + 3)).toNat)), .inl ((xs ((i + 2)).toNat)), .inl ((xs ((i + 1)).toNat)), .inr (.inl 30)], n182, D183, s184, p185, c186) _
        have hwt := wrt_t hQ.2.2.2.1 hQ.2.2.2.2.1 FKc (by decide) FFc (by decide)
        refine tt_cl (by omega) rfl (y_feed (Zi := Zi) (D := D183) (s := s184) (p := p185) (c := c186) (by omega) hS184 hC186 (c (p 600), s 601, 0, 8) ((xs ((i + 1)).toNat)) ((xs ((i + 2)).toNat)) ((xs ((i + 3)).toNat)) ((xs ((i + 4)).toNat)) ((xs ((i + 5)).toNat)) (by omega) (by omega) (by omega) (by omega) (by omega) hwt) ?_
        rintro _ _ ⟨s194, c195, r196, rfl, rfl, hS194, hC195, f197, g198, b199, k200, k201, k202, k203, k204⟩
        have hW205 := wp_rf f197 (by decide) hW185
        show tt Zi 12 0 (561, [some (.inr (.inl 1000004)), some (.inr (.inl 0)), some (.inr (.inl 30)), some (.inr (.inl 47)), some (.inl i), some (.inl r188), o6], [.inl r196], n182, D183, s194, p185, c195) _
        have te100 : s194 100 = (s184 100) := f197 100 (by decide)
        have te101 : s194 101 = (s184 101) := f197 101 (by decide)
        have te102 : s194 102 = (s184 102) := f197 102 (by decide)
        have te103 : s194 103 = (s184 103) := f197 103 (by decide)
        have te3001 : s194 3001 = (s184 3001) := f197 3001 (by decide)
        have te3002 : s194 3002 = (s184 3002) := f197 3002 (by decide)
        have te3003 : s194 3003 = (s184 3003) := f197 3003 (by decide)
        have te3004 : s194 3004 = (s184 3004) := f197 3004 (by decide)
        have ht2 : tie s194 := ⟨te100.trans (tc100.trans (ht.1.trans (tc3001.symm.trans te3001.symm))), te101.trans (tc101.trans (ht.2.1.trans (tc3002.symm.trans te3002.symm))), te102.trans (tc102.trans (ht.2.2.1.trans (tc3003.symm.trans te3003.symm))), te103.trans (tc103.trans (ht.2.2.2.trans (tc3004.symm.trans te3004.symm)))⟩
        have FKr := fk_rc FKc.1 g198 (by decide)
        have tS2 : tiS s194 p185 c195 := tiS_fk (tiS_fk ⟨E, hcE, hrE⟩ FKc (by decide) tc100 tc101 tc102) FKr (by decide) te100 te101 te102
        have q1 : tqC c195 := tqC_f hQ.1 FKc FKr (by decide)
        have q2 : tqW s194 := tqW_f (tqW_f hQ.2.1 FFc (by decide)) f197 (by decide)
        have q3 : tqP s194 p185 c195 := tqP_f hQ.2.2.1 FKc FKr (by decide) FFc (by decide) f197 (by decide)
        have hqt := fd_q hQ.2.2.2.1 k190 k191 (tqN FFc (by decide)) k200 k201 k202
        rw [← show c195 47 = c186 47 from g198 47 (by decide)] at hqt
        have q4 : tqT s194 := (f197 601 (by decide)).trans hqt.2.2
        have q5 : tqB s194 p185 c195 := tqB_fd hQ.2.2.2.2.1 FKr (fd_c hQ.2.2.2.1 k190 k191 (tqN FFc (by decide))) k192 k193 (fun h => (k191 h).2.2) k203 k204 f197
        clear k200 k201 k202 k203 k204 k190 k191 k192 k193
        have q6 : tqU s194 p185 c195 := tqU_f hQ.2.2.2.2.2.1 FKc FKr (by decide) FFc (by decide) p8c f197 (by decide)
        have q7 : tqK p185 c195 := tqK_f ⟨KK, hK1, hK2⟩ FKc FKr (by decide)
        have tQ2 : tiQ s194 p185 c195 := ⟨q1, q2, q3, q4, q5, q6, q7⟩
        clear tc100 tc101 tc102 tc103 tc3001 tc3002 tc3003 tc3004 te100 te101 te102 te103 te3001 te3002 te3003 te3004
        refine tt_k 4 (S' := (23, [some (.inr (.inl 1000004)), some (.inr (.inl 0)), some (.inr (.inl 30)), some (.inr (.inl 47)), some (.inl (i + 9)), some (.inl r188), some (.inl r196)], [], n182, D183, s194, p185, c195)) rfl ?_
        exact ih (q + 1) (i + 9) (some (.inl r188)) (some (.inl r196)) (n182, D183, s194, p185, c195) ⟨hS194, hC195, (wp_rg hW205), FKr.1⟩ ht2 tS2 tQ2 (by omega) (by omega) (by omega) (by omega)
      by_cases h206 : (mi_and (xs (i).toNat) 15) = 8
      · have h207 := h206
        refine tt_tsw (x := (mi_and (xs (i).toNat) 15)) (off := 526) rfl (by omega) (by omega) (by rw [h206]; rfl) rfl ?_
        show tt Zi 12 0 (566, [some (.inr (.inl 1000004)), some (.inr (.inl 0)), some (.inr (.inl 30)), some (.inr (.inl 47)), some (.inl i), o5, o6], [], n, D, s, p, c) _
        refine tt_k 5 (S' := (572, [some (.inr (.inl 1000004)), some (.inr (.inl 0)), some (.inr (.inl 30)), some (.inr (.inl 47)), some (.inl i), o5, o6], [.inl (i + 1), .inr (.inl 1000004), .inr (.inl 0)], n, D, s, p, c)) rfl ?_
        refine tt_stat (j := 4) (i := (i + 1)) rfl hs (by omega) ?_
        show tt Zi 12 0 (573, [some (.inr (.inl 1000004)), some (.inr (.inl 0)), some (.inr (.inl 30)), some (.inr (.inl 47)), some (.inl i), o5, o6], [.inl ((xs ((i + 1)).toNat)), .inr (.inl 0)], n, D, s, p, c) _
        have b208 := hxs ((i + 1)).toNat
        refine tt_cl (by omega) rfl (h_end (Zi := Zi) (q := q) (n := n) (D := D) (s := s) (p := p) (c := c) (by omega) hz (by omega) hD hS hC (wp_rg hW) ((xs ((i + 1)).toNat)) (by omega)) ?_
        rintro _ ⟨n209, D210, s211, p212, c213⟩ ⟨r215, rfl, b216, hY214, k217, k218⟩
        have p8c : p212 8 = p 8 := (hY214).2
        have hS211 : bS s211 := (hY214).1.1
        have hC213 : bC D210 c213 := (hY214).1.2.1
        have hW212 : wp _ _ n209 D210 p212 s211 := (hY214).1.2.2.1
        have FKc : fk p c n209 p212 c213 [] := (hY214).1.2.2.2.1
        have FFc : fr s s211 [601, 800, 801, 802, 803, 804, 805, 806, 807, 808, 809] := (hY214).1.2.2.2.2
        replace k217 : r215 = 0 → (0 ≤ ((xs ((i + 1)).toNat)) ∧ ((xs ((i + 1)).toNat)) ≤ s 601) ∧ s211 601 = ((xs ((i + 1)).toNat)) := k217
        replace k218 : r215 ≠ 0 → r215 = 1 ∧ ¬ (0 ≤ ((xs ((i + 1)).toNat)) ∧ ((xs ((i + 1)).toNat)) ≤ s 601) ∧ s211 601 = s 601 := k218
        show tt Zi 12 0 (576, [some (.inr (.inl 1000004)), some (.inr (.inl 0)), some (.inr (.inl 30)), some (.inr (.inl 47)), some (.inl i), o5, o6], [.inl r215], n209, D210, s211, p212, c213) _
        have tc100 : s211 100 = (s 100) := hW212.gz 100 rfl
        have tc101 : s211 101 = (s 101) := hW212.gz 101 rfl
        have tc102 : s211 102 = (s 102) := hW212.gz 102 rfl
        have tc103 : s211 103 = (s 103) := hW212.gz 103 rfl
        have tc3001 : s211 3001 = (s 3001) := hW212.gz 3001 rfl
        have tc3002 : s211 3002 = (s 3002) := hW212.gz 3002 rfl
        have tc3003 : s211 3003 = (s 3003) := hW212.gz 3003 rfl
        have tc3004 : s211 3004 = (s 3004) := hW212.gz 3004 rfl
        refine tt_k 6 (S' := (584, [some (.inr (.inl 1000004)), some (.inr (.inl 0)), some (.inr (.inl 30)), some (.inr (.inl 47)), some (.inl i), some (.inl r215), o6], [.inl (i + 1), .inr (.inl 1000004), .inr (.inl 30)], n209, D210, s211, p212, c213)) rfl ?_
        refine tt_stat (j := 4) (i := (i + 1)) rfl hs (by omega) ?_
        show tt Zi 12 0 (585, [some (.inr (.inl 1000004)), some (.inr (.inl 0)), some (.inr (.inl 30)), some (.inr (.inl 47)), some (.inl i), some (.inl r215), o6], [.inl ((xs ((i + 1)).toNat)), .inr (.inl 30)], n209, D210, s211, p212, c213) _
        refine tt_cl (by omega) rfl (k_end (Zi := Zi) (D := D210) (s := s211) (p := p212) (c := c213) (by omega) hS211 hC213 ((xs ((i + 1)).toNat)) (by omega)) ?_
        rintro _ _ ⟨s219, rfl, rfl, hS219, f220, k221, k222⟩
        have hW223 := wp_rf f220 (by decide) hW212
        show tt Zi 12 0 (588, [some (.inr (.inl 1000004)), some (.inr (.inl 0)), some (.inr (.inl 30)), some (.inr (.inl 47)), some (.inl i), some (.inl r215), o6], [], n209, D210, s219, p212, c213) _
        have te100 : s219 100 = (s211 100) := f220 100 (by decide)
        have te101 : s219 101 = (s211 101) := f220 101 (by decide)
        have te102 : s219 102 = (s211 102) := f220 102 (by decide)
        have te103 : s219 103 = (s211 103) := f220 103 (by decide)
        have te3001 : s219 3001 = (s211 3001) := f220 3001 (by decide)
        have te3002 : s219 3002 = (s211 3002) := f220 3002 (by decide)
        have te3003 : s219 3003 = (s211 3003) := f220 3003 (by decide)
        have te3004 : s219 3004 = (s211 3004) := f220 3004 (by decide)
        have ht2 : tie s219 := ⟨te100.trans (tc100.trans (ht.1.trans (tc3001.symm.trans te3001.symm))), te101.trans (tc101.trans (ht.2.1.trans (tc3002.symm.trans te3002.symm))), te102.trans (tc102.trans (ht.2.2.1.trans (tc3003.symm.trans te3003.symm))), te103.trans (tc103.trans (ht.2.2.2.trans (tc3004.symm.trans te3004.symm)))⟩
        have FKr := fk_rf (c := c213) (K := []) FKc.1
        have tS2 : tiS s219 p212 c213 := tiS_fk (tiS_fk ⟨E, hcE, hrE⟩ FKc (by decide) tc100 tc101 tc102) FKr (by decide) te100 te101 te102
        have q1 : tqC c213 := tqC_f hQ.1 FKc FKr (by decide)
        have q2 : tqW s219 := tqW_f (tqW_f hQ.2.1 FFc (by decide)) f220 (by decide)
        have q3 : tqP s219 p212 c213 := tqP_f hQ.2.2.1 FKc FKr (by decide) FFc (by decide) f220 (by decide)
        have hqt := en_q hQ.2.2.2.1 k217 k218 (tqN FFc (by decide)) k221 k222
        have q4 : tqT s219 := (f220 601 (by decide)).trans hqt.2
        have q5 : tqB s219 p212 c213 := tqB_en hQ.2.2.2.2.1 FKc FKr (by decide) k217 k218 f220
        have q6 : tqU s219 p212 c213 := tqU_f hQ.2.2.2.2.2.1 FKc FKr (by decide) FFc (by decide) p8c f220 (by decide)
        have q7 : tqK p212 c213 := tqK_f ⟨KK, hK1, hK2⟩ FKc FKr (by decide)
        have tQ2 : tiQ s219 p212 c213 := ⟨q1, q2, q3, q4, q5, q6, q7⟩
        clear tc100 tc101 tc102 tc103 tc3001 tc3002 tc3003 tc3004 te100 te101 te102 te103 te3001 te3002 te3003 te3004
        refine tt_k 3 (S' := (23, [some (.inr (.inl 1000004)), some (.inr (.inl 0)), some (.inr (.inl 30)), some (.inr (.inl 47)), some (.inl (i + 9)), some (.inl r215), o6], [], n209, D210, s219, p212, c213)) rfl ?_
        exact ih (q + 1) (i + 9) (some (.inl r215)) (o6) (n209, D210, s219, p212, c213) ⟨hS219, hC213, (wp_rg hW223), FKr.1⟩ ht2 tS2 tQ2 (by omega) (by omega) (by omega) (by omega)
      by_cases h224 : (mi_and (xs (i).toNat) 15) = 9
      · have h225 := h224
        refine tt_tsw (x := (mi_and (xs (i).toNat) 15)) (off := 551) rfl (by omega) (by omega) (by rw [h224]; rfl) rfl ?_
        show tt Zi 12 0 (591, [some (.inr (.inl 1000004)), some (.inr (.inl 0)), some (.inr (.inl 30)), some (.inr (.inl 47)), some (.inl i), o5, o6], [], n, D, s, p, c) _
        refine tt_k 5 (S' := (597, [some (.inr (.inl 1000004)), some (.inr (.inl 0)), some (.inr (.inl 30)), some (.inr (.inl 47)), some (.inl i), o5, o6], [.inl (i + 1), .inr (.inl 1000004), .inr (.inl 0)], n, D, s, p, c)) rfl ?_
        refine tt_stat (j := 4) (i := (i + 1)) rfl hs (by omega) ?_
        show tt Zi 12 0 (598, [some (.inr (.inl 1000004)), some (.inr (.inl 0)), some (.inr (.inl 30)), some (.inr (.inl 47)), some (.inl i), o5, o6], [.inl ((xs ((i + 1)).toNat)), .inr (.inl 0)], n, D, s, p, c) _
        have b226 := hxs ((i + 1)).toNat
        refine tt_k 4 (S' := (603, [some (.inr (.inl 1000004)), some (.inr (.inl 0)), some (.inr (.inl 30)), some (.inr (.inl 47)), some (.inl i), o5, o6], [.inl (i + 2), .inr (.inl 1000004), .inl ((xs ((i + 1)).toNat)), .inr (.inl 0)], n, D, s, p, c)) rfl ?_
        refine tt_stat (j := 4) (i := (i + 2)) rfl hs (by omega) ?_
        show tt Zi 12 0 (604, [some (.inr (.inl 1000004)), some (.inr (.inl 0)), some (.inr (.inl 30)), some (.inr (.inl 47)), some (.inl i), o5, o6], [.inl ((xs ((i + 2)).toNat)), .inl ((xs ((i + 1)).toNat)), .inr (.inl 0)], n, D, s, p, c) _
        have b227 := hxs ((i + 2)).toNat
        refine tt_k 1 (S' := (605, [some (.inr (.inl 1000004)), some (.inr (.inl 0)), some (.inr (.inl 30)), some (.inr (.inl 47)), some (.inl i), o5, o6], [.inr (.inl 47), .inl ((xs ((i + 2)).toNat)), .inl ((xs ((i + 1)).toNat)), .inr (.inl 0)], n, D, s, p, c)) rfl ?_
        refine tt_cl (by omega) rfl (h_change (Zi := Zi) (q := q) (n := n) (D := D) (s := s) (p := p) (c := c) (by omega) hz (by omega) hD hS hC (wp_rg hW) ((xs ((i + 1)).toNat)) ((xs ((i + 2)).toNat)) (by omega) (by omega)) ?_
        rintro _ ⟨n228, D229, s230, p231, c232⟩ ⟨r234, rfl, b235, hY233, k236, k237, k238, k239⟩
        have p8c : p231 8 = p 8 := (hY233).2
        have hS230 : bS s230 := (hY233).1.1
        have hC232 : bC D229 c232 := (hY233).1.2.1
        have hW231 : wp _ _ n228 D229 p231 s230 := (hY233).1.2.2.1
        have FKc : fk p c n228 p231 c232 [47, 600] := (hY233).1.2.2.2.1
        have FFc : fr s s230 [800, 801, 802, 803, 804, 805, 806, 807, 808, 809] := (hY233).1.2.2.2.2
        replace k236 : chP r234 ((xs ((i + 1)).toNat)) ((xs ((i + 2)).toNat)) (s 601) := k236
        replace k237 : r234 = 0 → c232 47 0 = (mi_xor (mi_and (c (p 600) ((xs ((i + 1)).toNat)).toNat) 255) ((xs ((i + 2)).toNat))) := k237
        replace k238 : r234 = 0 → c232 (p231 600) = ua (c (p 600)) ((xs ((i + 1)).toNat)).toNat (nb (mi_xor (mi_and (c (p 600) ((xs ((i + 1)).toNat)).toNat) 255) ((xs ((i + 2)).toNat)))) := k238
        replace k239 : r234 ≠ 0 → fk p c n228 p231 c232 [] := k239
        show tt Zi 12 0 (608, [some (.inr (.inl 1000004)), some (.inr (.inl 0)), some (.inr (.inl 30)), some (.inr (.inl 47)), some (.inl i), o5, o6], [.inl r234], n228, D229, s230, p231, c232) _
        have tc100 : s230 100 = (s 100) := hW231.gz 100 rfl
        have tc101 : s230 101 = (s 101) := hW231.gz 101 rfl
        have tc102 : s230 102 = (s 102) := hW231.gz 102 rfl
        have tc103 : s230 103 = (s 103) := hW231.gz 103 rfl
        have tc3001 : s230 3001 = (s 3001) := hW231.gz 3001 rfl
        have tc3002 : s230 3002 = (s 3002) := hW231.gz 3002 rfl
        have tc3003 : s230 3003 = (s 3003) := hW231.gz 3003 rfl
        have tc3004 : s230 3004 = (s 3004) := hW231.gz 3004 rfl
        refine tt_k 6 (S' := (616, [some (.inr (.inl 1000004)), some (.inr (.inl 0)), some (.inr (.inl 30)), some (.inr (.inl 47)), some (.inl i), some (.inl r234), o6], [.inl (i + 1), .inr (.inl 1000004), .inr (.inl 30)], n228, D229, s230, p231, c232)) rfl ?_
        refine tt_stat (j := 4) (i := (i + 1)) rfl hs (by omega) ?_
        show tt Zi 12 0 (617, [some (.inr (.inl 1000004)), some (.inr (.inl 0)), some (.inr (.inl 30)), some (.inr (.inl 47)), some (.inl i), some (.inl r234), o6], [.inl ((xs ((i + 1)).toNat)), .inr (.inl 30)], n228, D229, s230, p231, c232) _
        refine tt_k 4 (S' := (622, [some (.inr (.inl 1000004)), some (.inr (.inl 0)), some (.inr (.inl 30)), some (.inr (.inl 47)), some (.inl i), some (.inl r234), o6], [.inl (i + 2), .inr (.inl 1000004), .inl ((xs ((i + 1)).toNat)), .inr (.inl 30)], n228, D229, s230, p231, c232)) rfl ?_
        refine tt_stat (j := 4) (i := (i + 2)) rfl hs (by omega) ?_
        show tt Zi 12 0 (623, [some (.inr (.inl 1000004)), some (.inr (.inl 0)), some (.inr (.inl 30)), some (.inr (.inl 47)), some (.inl i), some (.inl r234), o6], [.inl ((xs ((i + 2)).toNat)), .inl ((xs ((i + 1)).toNat)), .inr (.inl 30)], n228, D229, s230, p231, c232) _
        refine tt_cl (by omega) rfl (y_change (Zi := Zi) (D := D229) (s := s230) (p := p231) (c := c232) (by omega) hS230 hC232 ((xs ((i + 1)).toNat)) ((xs ((i + 2)).toNat)) (by omega) (by omega)) ?_
        rintro _ _ ⟨s240, c241, r242, rfl, rfl, hS240, hC241, f243, g244, b245, k246, k247, k248⟩
        have hW249 := wp_rf f243 (by decide) hW231
        show tt Zi 12 0 (626, [some (.inr (.inl 1000004)), some (.inr (.inl 0)), some (.inr (.inl 30)), some (.inr (.inl 47)), some (.inl i), some (.inl r234), o6], [.inl r242], n228, D229, s240, p231, c241) _
        have te100 : s240 100 = (s230 100) := f243 100 (by decide)
        have te101 : s240 101 = (s230 101) := f243 101 (by decide)
        have te102 : s240 102 = (s230 102) := f243 102 (by decide)
        have te103 : s240 103 = (s230 103) := f243 103 (by decide)
        have te3001 : s240 3001 = (s230 3001) := f243 3001 (by decide)
        have te3002 : s240 3002 = (s230 3002) := f243 3002 (by decide)
        have te3003 : s240 3003 = (s230 3003) := f243 3003 (by decide)
        have te3004 : s240 3004 = (s230 3004) := f243 3004 (by decide)
        have ht2 : tie s240 := ⟨te100.trans (tc100.trans (ht.1.trans (tc3001.symm.trans te3001.symm))), te101.trans (tc101.trans (ht.2.1.trans (tc3002.symm.trans te3002.symm))), te102.trans (tc102.trans (ht.2.2.1.trans (tc3003.symm.trans te3003.symm))), te103.trans (tc103.trans (ht.2.2.2.trans (tc3004.symm.trans te3004.symm)))⟩
        have FKr := fk_rc FKc.1 g244 (by decide)
        have tS2 : tiS s240 p231 c241 := tiS_fk (tiS_fk ⟨E, hcE, hrE⟩ FKc (by decide) tc100 tc101 tc102) FKr (by decide) te100 te101 te102
        have q1 : tqC c241 := tqC_f hQ.1 FKc FKr (by decide)
        have q2 : tqW s240 := tqW_f (tqW_f hQ.2.1 FFc (by decide)) f243 (by decide)
        have q3 : tqP s240 p231 c241 := tqP_f hQ.2.2.1 FKc FKr (by decide) FFc (by decide) f243 (by decide)
        have q4 : tqT s240 := tqT_f (tqT_f hQ.2.2.2.1 FFc (by decide)) f243 (by decide)
        have hqt := ch_q hQ.2.2.2.1 k236 (tqN FFc (by decide)) k246
        have q5 : tqB s240 p231 c241 := tqB_ch hQ.2.2.2.2.1 hQ.2.2.2.1 FKc FKr FFc (by decide) k236 k238 k239 k248 f243
        have hqv := ch_w hQ.2.2.2.2.1 hQ.2.2.2.1 hC hW FKc (by decide) (tqN FFc (by decide)) k236 k237 k247
        rw [← show c241 47 = c232 47 from g244 47 (by decide)] at hqv
        clear k246 k247 k248 k236 k237 k238 k239
        have q6 : tqU s240 p231 c241 := tqU_f hQ.2.2.2.2.2.1 FKc FKr (by decide) FFc (by decide) p8c f243 (by decide)
        have q7 : tqK p231 c241 := tqK_f ⟨KK, hK1, hK2⟩ FKc FKr (by decide)
        have tQ2 : tiQ s240 p231 c241 := ⟨q1, q2, q3, q4, q5, q6, q7⟩
        clear tc100 tc101 tc102 tc103 tc3001 tc3002 tc3003 tc3004 te100 te101 te102 te103 te3001 te3002 te3003 te3004
        refine tt_k 4 (S' := (23, [some (.inr (.inl 1000004)), some (.inr (.inl 0)), some (.inr (.inl 30)), some (.inr (.inl 47)), some (.inl (i + 9)), some (.inl r234), some (.inl r242)], [], n228, D229, s240, p231, c241)) rfl ?_
        exact ih (q + 1) (i + 9) (some (.inl r234)) (some (.inl r242)) (n228, D229, s240, p231, c241) ⟨hS240, hC241, (wp_rg hW249), FKr.1⟩ ht2 tS2 tQ2 (by omega) (by omega) (by omega) (by omega)
      by_cases h250 : (mi_and (xs (i).toNat) 15) = 10
      · have h251 := h250
        refine tt_tsw (x := (mi_and (xs (i).toNat) 15)) (off := 591) rfl (by omega) (by omega) (by rw [h250]; rfl) rfl ?_
        show tt Zi 12 0 (631, [some (.inr (.inl 1000004)), some (.inr (.inl 0)), some (.inr (.inl 30)), some (.inr (.inl 47)), some (.inl i), o5, o6], [], n, D, s, p, c) _
        refine tt_k 2 (S' := (633, [some (.inr (.inl 1000004)), some (.inr (.inl 0)), some (.inr (.inl 30)), some (.inr (.inl 47)), some (.inl i), o5, o6], [.inr (.inl 47), .inr (.inl 0)], n, D, s, p, c)) rfl ?_
        refine tt_cl (by omega) rfl (h_turn (Zi := Zi) (q := q) (n := n) (D := D) (s := s) (p := p) (c := c) (by omega) hz (by omega) hD hS hC (wp_rg hW) ) ?_
        rintro _ ⟨n252, D253, s254, p255, c256⟩ ⟨r258, rfl, b259, hY257, k260, k261, k262, k263⟩
        have p8c : p255 8 = p 8 := (hY257).2
        have hS254 : bS s254 := (hY257).1.1
        have hC256 : bC D253 c256 := (hY257).1.2.1
        have hW255 : wp _ _ n252 D253 p255 s254 := (hY257).1.2.2.1
        have FKc : fk p c n252 p255 c256 [47, 600] := (hY257).1.2.2.2.1
        have FFc : fr s s254 [601, 800, 801, 802, 803, 804, 805, 806, 807, 808, 809] := (hY257).1.2.2.2.2
        replace k260 : r258 = 0 → s 401 ≤ 32768 ∧ s254 601 = s 401 ∧ c256 47 0 = s 401 := k260
        replace k261 : r258 ≠ 0 → r258 = 1 ∧ ¬ (s 401 ≤ 32768) ∧ s254 601 = s 601 := k261
        replace k263 : r258 ≠ 0 → fk p c n252 p255 c256 [] := k263
        show tt Zi 12 0 (636, [some (.inr (.inl 1000004)), some (.inr (.inl 0)), some (.inr (.inl 30)), some (.inr (.inl 47)), some (.inl i), o5, o6], [.inl r258], n252, D253, s254, p255, c256) _
        have tc100 : s254 100 = (s 100) := hW255.gz 100 rfl
        have tc101 : s254 101 = (s 101) := hW255.gz 101 rfl
        have tc102 : s254 102 = (s 102) := hW255.gz 102 rfl
        have tc103 : s254 103 = (s 103) := hW255.gz 103 rfl
        have tc3001 : s254 3001 = (s 3001) := hW255.gz 3001 rfl
        have tc3002 : s254 3002 = (s 3002) := hW255.gz 3002 rfl
        have tc3003 : s254 3003 = (s 3003) := hW255.gz 3003 rfl
        have tc3004 : s254 3004 = (s 3004) := hW255.gz 3004 rfl
        refine tt_k 2 (S' := (639, [some (.inr (.inl 1000004)), some (.inr (.inl 0)), some (.inr (.inl 30)), some (.inr (.inl 47)), some (.inl i), some (.inl r258), o6], [.inr (.inl 30)], n252, D253, s254, p255, c256)) rfl ?_
        refine tt_cl (by omega) rfl (y_turn (Zi := Zi) (D := D253) (s := s254) (p := p255) (c := c256) (by omega) hS254 hC256 ) ?_
        rintro _ _ ⟨s264, c265, r266, rfl, rfl, hS264, hC265, f267, g268, b269, k270, k271, k272, k273, k274⟩
        have hW275 := wp_rf f267 (by decide) hW255
        show tt Zi 12 0 (642, [some (.inr (.inl 1000004)), some (.inr (.inl 0)), some (.inr (.inl 30)), some (.inr (.inl 47)), some (.inl i), some (.inl r258), o6], [.inl r266], n252, D253, s264, p255, c265) _
        have te100 : s264 100 = (s254 100) := f267 100 (by decide)
        have te101 : s264 101 = (s254 101) := f267 101 (by decide)
        have te102 : s264 102 = (s254 102) := f267 102 (by decide)
        have te103 : s264 103 = (s254 103) := f267 103 (by decide)
        have te3001 : s264 3001 = (s254 3001) := f267 3001 (by decide)
        have te3002 : s264 3002 = (s254 3002) := f267 3002 (by decide)
        have te3003 : s264 3003 = (s254 3003) := f267 3003 (by decide)
        have te3004 : s264 3004 = (s254 3004) := f267 3004 (by decide)
        have ht2 : tie s264 := ⟨te100.trans (tc100.trans (ht.1.trans (tc3001.symm.trans te3001.symm))), te101.trans (tc101.trans (ht.2.1.trans (tc3002.symm.trans te3002.symm))), te102.trans (tc102.trans (ht.2.2.1.trans (tc3003.symm.trans te3003.symm))), te103.trans (tc103.trans (ht.2.2.2.trans (tc3004.symm.trans te3004.symm)))⟩
        have FKr := fk_rc FKc.1 g268 (by decide)
        have tS2 : tiS s264 p255 c265 := tiS_fk (tiS_fk ⟨E, hcE, hrE⟩ FKc (by decide) tc100 tc101 tc102) FKr (by decide) te100 te101 te102
        have q1 : tqC c265 := tqC_f hQ.1 FKc FKr (by decide)
        have q2 : tqW s264 := tqW_f (tqW_f hQ.2.1 FFc (by decide)) f267 (by decide)
        have q3 : tqP s264 p255 c265 := tqP_f hQ.2.2.1 FKc FKr (by decide) FFc (by decide) f267 (by decide)
        have hqt := tu_q hQ.2.2.2.1 hQ.2.2.1.1 k260 k261 (tqN FFc (by decide)) (tqZ FFc (by decide)) k270 k271 k272
        rw [← show c265 47 = c256 47 from g268 47 (by decide)] at hqt
        have q4 : tqT s264 := (f267 601 (by decide)).trans hqt.2.2
        have q5 : tqB s264 p255 c265 := tqB_tu hQ.2.2.2.2.1 hQ.2.2.1 FKc FKr FFc (by decide) (tu_c k260 k261 hQ.2.2.1.1 (tqZ FFc (by decide))) k262 k263 (fun h => (k260 h).2.1) (fun h => (k261 h).2.2) k273 k274 f267
        clear k270 k271 k272 k273 k274 k260 k261 k262 k263
        have q6 : tqU s264 p255 c265 := tqU_f hQ.2.2.2.2.2.1 FKc FKr (by decide) FFc (by decide) p8c f267 (by decide)
        have q7 : tqK p255 c265 := tqK_f ⟨KK, hK1, hK2⟩ FKc FKr (by decide)
        have tQ2 : tiQ s264 p255 c265 := ⟨q1, q2, q3, q4, q5, q6, q7⟩
        clear tc100 tc101 tc102 tc103 tc3001 tc3002 tc3003 tc3004 te100 te101 te102 te103 te3001 te3002 te3003 te3004
        refine tt_k 4 (S' := (23, [some (.inr (.inl 1000004)), some (.inr (.inl 0)), some (.inr (.inl 30)), some (.inr (.inl 47)), some (.inl (i + 9)), some (.inl r258), some (.inl r266)], [], n252, D253, s264, p255, c265)) rfl ?_
        exact ih (q + 1) (i + 9) (some (.inl r258)) (some (.inl r266)) (n252, D253, s264, p255, c265) ⟨hS264, hC265, (wp_rg hW275), FKr.1⟩ ht2 tS2 tQ2 (by omega) (by omega) (by omega) (by omega)
      by_cases h276 : (mi_and (xs (i).toNat) 15) = 11
      · have h277 := h276
        refine tt_tsw (x := (mi_and (xs (i).toNat) 15)) (off := 607) rfl (by omega) (by omega) (by rw [h276]; rfl) rfl ?_
        show tt Zi 12 0 (647, [some (.inr (.inl 1000004)), some (.inr (.inl 0)), some (.inr (.inl 30)), some (.inr (.inl 47)), some (.inl i), o5, o6], [], n, D, s, p, c) _
        refine tt_k 1 (S' := (648, [some (.inr (.inl 1000004)), some (.inr (.inl 0)), some (.inr (.inl 30)), some (.inr (.inl 47)), some (.inl i), o5, o6], [.inr (.inl 0)], n, D, s, p, c)) rfl ?_
        refine tt_cl (by omega) rfl (e_unpack (Zi := Zi) (q := q) (n := n) (D := D) (s := s) (p := p) (c := c) (by omega) hz (by omega) hD hS hC (wp_rg hW) ((fun i => c (p 600) i % 256, s 601) : TN) KK ⟨rfl, fun _ _ => rfl⟩ hK1) ?_
        rintro _ ⟨n278, D279, s280, p281, c282⟩ ⟨r284, rfl, b285, hY283, k286⟩
        have hS280 : bS s280 := hY283.1
        have hC282 : bC D279 c282 := hY283.2.1
        have hW281 : wp _ _ n278 D279 p281 s280 := hY283.2.2.1
        have FKc : fk p c n278 p281 c282 [18, 19, 900, 901, 2103, 2104, 2504, 2704] := hY283.2.2.2.1
        have FFc : fr s s280 [10, 11, 800, 801, 802, 803, 804, 805, 806, 807, 808, 809, 902, 1705, 1706, 2001, 2002, 2003, 2004, 2005, 2006, 2106, 2107, 2108, 2109, 2110, 2111, 2112, 2113, 2114, 2115, 2116, 2500, 2501, 2502, 2503, 2700, 2701, 2702, 2703] := hY283.2.2.2.2
        replace k286 : (s280 10 = 1 ∧ ∃ S, rowR ((fun i => c (p 600) i % 256, s 601) : TN) KK = (some S, S.2.2.2.2.2.1) ∧ mrk S.2.2.2.2.2.1 (c282 (p281 900)) ∧ pcE s280 p281 c282 S) ∨ ((∃ K, rowR ((fun i => c (p 600) i % 256, s 601) : TN) KK = (none, K) ∧ mrk K (c282 (p281 900))) ∧ pcS s p c s280 p281 c282) := k286
        show tt Zi 12 0 (651, [some (.inr (.inl 1000004)), some (.inr (.inl 0)), some (.inr (.inl 30)), some (.inr (.inl 47)), some (.inl i), o5, o6], [.inl r284], n278, D279, s280, p281, c282) _
        have tc100 : s280 100 = (s 100) := hW281.gz 100 rfl
        have tc101 : s280 101 = (s 101) := hW281.gz 101 rfl
        have tc102 : s280 102 = (s 102) := hW281.gz 102 rfl
        have tc103 : s280 103 = (s 103) := hW281.gz 103 rfl
        have tc3001 : s280 3001 = (s 3001) := hW281.gz 3001 rfl
        have tc3002 : s280 3002 = (s 3002) := hW281.gz 3002 rfl
        have tc3003 : s280 3003 = (s 3003) := hW281.gz 3003 rfl
        have tc3004 : s280 3004 = (s 3004) := hW281.gz 3004 rfl
        refine tt_k 2 (S' := (653, [some (.inr (.inl 1000004)), some (.inr (.inl 0)), some (.inr (.inl 30)), some (.inr (.inl 47)), some (.inl i), o5, o6], [.inr (.inl 30)], n278, D279, s280, p281, c282)) rfl ?_
        have htp9 := tp_t hQ.2.2.2.1 hQ.2.2.2.2.1 FKc (by decide) FFc (by decide)
        refine tt_cl (by omega) rfl (v_unpack (Zi := Zi) (D := D279) (s := s280) (p := p281) (c := c282) (by omega) hS280 hC282 ((fun i => c (p 600) i % 256, s 601) : TN) KK htp9 (mrl_fk hK2 FKc (by decide))) ?_
        rintro _ _ ⟨s287, c288, r289, rfl, rfl, hS287, hC288, f290, g291, b292, k293⟩
        have hW294 := wp_rf f290 (by decide) hW281
        show tt Zi 12 0 (656, [some (.inr (.inl 1000004)), some (.inr (.inl 0)), some (.inr (.inl 30)), some (.inr (.inl 47)), some (.inl i), o5, o6], [.inl r289], n278, D279, s287, p281, c288) _
        have te100 : s287 100 = (s280 100) := f290 100 (by decide)
        have te101 : s287 101 = (s280 101) := f290 101 (by decide)
        have te102 : s287 102 = (s280 102) := f290 102 (by decide)
        have te103 : s287 103 = (s280 103) := f290 103 (by decide)
        have te3001 : s287 3001 = (s280 3001) := f290 3001 (by decide)
        have te3002 : s287 3002 = (s280 3002) := f290 3002 (by decide)
        have te3003 : s287 3003 = (s280 3003) := f290 3003 (by decide)
        have te3004 : s287 3004 = (s280 3004) := f290 3004 (by decide)
        have ht2 : tie s287 := ⟨te100.trans (tc100.trans (ht.1.trans (tc3001.symm.trans te3001.symm))), te101.trans (tc101.trans (ht.2.1.trans (tc3002.symm.trans te3002.symm))), te102.trans (tc102.trans (ht.2.2.1.trans (tc3003.symm.trans te3003.symm))), te103.trans (tc103.trans (ht.2.2.2.trans (tc3004.symm.trans te3004.symm)))⟩
        have FKr := fk_rc FKc.1 g291 (by decide)
        have tS2 : tiS s287 p281 c288 := tiS_fk (tiS_fk ⟨E, hcE, hrE⟩ FKc (by decide) tc100 tc101 tc102) FKr (by decide) te100 te101 te102
        have q1 : tqC c288 := tqC_f hQ.1 FKc FKr (by decide)
        have q2 : tqW s287 := tqW_f (tqW_f hQ.2.1 FFc (by decide)) f290 (by decide)
        have q3 : tqP s287 p281 c288 := tqP_f hQ.2.2.1 FKc FKr (by decide) FFc (by decide) f290 (by decide)
        have q4 : tqT s287 := tqT_f (tqT_f hQ.2.2.2.1 FFc (by decide)) f290 (by decide)
        have q5 : tqB s287 p281 c288 := tqB_f hQ.2.2.2.2.1 FKc FKr (by decide) FFc (by decide) f290 (by decide)
        have q6 : tqU s287 p281 c288 := un_q hQ.2.2.2.2.2.1 ((hW294).pp.elim (fun q => Or.inl q.1) (fun q => Or.inr q.1)) k286 k293 FKc (by decide) FKr (by decide) FFc (by decide) f290 (by decide)
        have q7 : tqK p281 c288 := un_k k286 k293 FKr (by decide)
        clear k293 k286
        have tQ2 : tiQ s287 p281 c288 := ⟨q1, q2, q3, q4, q5, q6, q7⟩
        clear tc100 tc101 tc102 tc103 tc3001 tc3002 tc3003 tc3004 te100 te101 te102 te103 te3001 te3002 te3003 te3004
        refine tt_k 4 (S' := (23, [some (.inr (.inl 1000004)), some (.inr (.inl 0)), some (.inr (.inl 30)), some (.inr (.inl 47)), some (.inl (i + 9)), o5, o6], [], n278, D279, s287, p281, c288)) rfl ?_
        exact ih (q + 1) (i + 9) (o5) (o6) (n278, D279, s287, p281, c288) ⟨hS287, hC288, (wp_rg hW294), FKr.1⟩ ht2 tS2 tQ2 (by omega) (by omega) (by omega) (by omega)
      by_cases h295 : (mi_and (xs (i).toNat) 15) = 12
      · have h296 := h295
        refine tt_tsw (x := (mi_and (xs (i).toNat) 15)) (off := 620) rfl (by omega) (by omega) (by rw [h295]; rfl) rfl ?_
        show tt Zi 12 0 (660, [some (.inr (.inl 1000004)), some (.inr (.inl 0)), some (.inr (.inl 30)), some (.inr (.inl 47)), some (.inl i), o5, o6], [], n, D, s, p, c) _
        refine tt_k 1 (S' := (661, [some (.inr (.inl 1000004)), some (.inr (.inl 0)), some (.inr (.inl 30)), some (.inr (.inl 47)), some (.inl i), o5, o6], [.inr (.inl 0)], n, D, s, p, c)) rfl ?_
        refine tt_cl (by omega) rfl (g_place (Zi := Zi) (q := q) (n := n) (D := D) (s := s) (p := p) (c := c) (by omega) hz (by omega) hD hS hC (wp_rg hW) ) ?_
        rintro _ ⟨n297, D298, s299, p300, c301⟩ ⟨r303, rfl, b304, hY302⟩
        have p8c : p300 8 = p 8 := (hY302).2
        have hS299 : bS s299 := (hY302).1.1
        have hC301 : bC D298 c301 := (hY302).1.2.1
        have hW300 : wp _ _ n297 D298 p300 s299 := (hY302).1.2.2.1
        have FKc : fk p c n297 p300 c301 [] := (hY302).1.2.2.2.1
        have FFc : fr s s299 [] := (hY302).1.2.2.2.2
        show tt Zi 12 0 (664, [some (.inr (.inl 1000004)), some (.inr (.inl 0)), some (.inr (.inl 30)), some (.inr (.inl 47)), some (.inl i), o5, o6], [.inl r303], n297, D298, s299, p300, c301) _
        have tc100 : s299 100 = (s 100) := hW300.gz 100 rfl
        have tc101 : s299 101 = (s 101) := hW300.gz 101 rfl
        have tc102 : s299 102 = (s 102) := hW300.gz 102 rfl
        have tc103 : s299 103 = (s 103) := hW300.gz 103 rfl
        have tc3001 : s299 3001 = (s 3001) := hW300.gz 3001 rfl
        have tc3002 : s299 3002 = (s 3002) := hW300.gz 3002 rfl
        have tc3003 : s299 3003 = (s 3003) := hW300.gz 3003 rfl
        have tc3004 : s299 3004 = (s 3004) := hW300.gz 3004 rfl
        refine tt_k 2 (S' := (666, [some (.inr (.inl 1000004)), some (.inr (.inl 0)), some (.inr (.inl 30)), some (.inr (.inl 47)), some (.inl i), o5, o6], [.inr (.inl 30)], n297, D298, s299, p300, c301)) rfl ?_
        refine tt_cl (by omega) rfl (k_place (Zi := Zi) (D := D298) (s := s299) (p := p300) (c := c301) (by omega) hS299 hC301 ) ?_
        rintro _ _ ⟨s305, r306, rfl, rfl, hS305, f307, b308, k309, k310⟩
        have hW311 := wp_rf f307 (by decide) hW300
        show tt Zi 12 0 (669, [some (.inr (.inl 1000004)), some (.inr (.inl 0)), some (.inr (.inl 30)), some (.inr (.inl 47)), some (.inl i), o5, o6], [.inl r306], n297, D298, s305, p300, c301) _
        have te100 : s305 100 = (s299 100) := f307 100 (by decide)
        have te101 : s305 101 = (s299 101) := f307 101 (by decide)
        have te102 : s305 102 = (s299 102) := f307 102 (by decide)
        have te103 : s305 103 = (s299 103) := f307 103 (by decide)
        have te3001 : s305 3001 = (s299 3001) := f307 3001 (by decide)
        have te3002 : s305 3002 = (s299 3002) := f307 3002 (by decide)
        have te3003 : s305 3003 = (s299 3003) := f307 3003 (by decide)
        have te3004 : s305 3004 = (s299 3004) := f307 3004 (by decide)
        have ht2 : tie s305 := ⟨te100.trans (tc100.trans (ht.1.trans (tc3001.symm.trans te3001.symm))), te101.trans (tc101.trans (ht.2.1.trans (tc3002.symm.trans te3002.symm))), te102.trans (tc102.trans (ht.2.2.1.trans (tc3003.symm.trans te3003.symm))), te103.trans (tc103.trans (ht.2.2.2.trans (tc3004.symm.trans te3004.symm)))⟩
        have FKr := fk_rf (c := c301) (K := []) FKc.1
        have tS2 : tiS s305 p300 c301 := tiS_fk (tiS_fk ⟨E, hcE, hrE⟩ FKc (by decide) tc100 tc101 tc102) FKr (by decide) te100 te101 te102
        have q1 : tqC c301 := tqC_f hQ.1 FKc FKr (by decide)
        have q2 : tqW s305 := tqW_f (tqW_f hQ.2.1 FFc (by decide)) f307 (by decide)
        have q3 : tqP s305 p300 c301 := tqP_f hQ.2.2.1 FKc FKr (by decide) FFc (by decide) f307 (by decide)
        have q4 : tqT s305 := tqT_f (tqT_f hQ.2.2.2.1 FFc (by decide)) f307 (by decide)
        have q5 : tqB s305 p300 c301 := tqB_f hQ.2.2.2.2.1 FKc FKr (by decide) FFc (by decide) f307 (by decide)
        have q6 : tqU s305 p300 c301 := tqU_f hQ.2.2.2.2.2.1 FKc FKr (by decide) FFc (by decide) p8c f307 (by decide)
        have q7 : tqK p300 c301 := tqK_f ⟨KK, hK1, hK2⟩ FKc FKr (by decide)
        have tQ2 : tiQ s305 p300 c301 := ⟨q1, q2, q3, q4, q5, q6, q7⟩
        clear tc100 tc101 tc102 tc103 tc3001 tc3002 tc3003 tc3004 te100 te101 te102 te103 te3001 te3002 te3003 te3004
        refine tt_k 4 (S' := (23, [some (.inr (.inl 1000004)), some (.inr (.inl 0)), some (.inr (.inl 30)), some (.inr (.inl 47)), some (.inl (i + 9)), o5, o6], [], n297, D298, s305, p300, c301)) rfl ?_
        exact ih (q + 1) (i + 9) (o5) (o6) (n297, D298, s305, p300, c301) ⟨hS305, hC301, (wp_rg hW311), FKr.1⟩ ht2 tS2 tQ2 (by omega) (by omega) (by omega) (by omega)
      by_cases h312 : (mi_and (xs (i).toNat) 15) = 13
      · have h313 := h312
        refine tt_tsw (x := (mi_and (xs (i).toNat) 15)) (off := 633) rfl (by omega) (by omega) (by rw [h312]; rfl) rfl ?_
        show tt Zi 12 0 (673, [some (.inr (.inl 1000004)), some (.inr (.inl 0)), some (.inr (.inl 30)), some (.inr (.inl 47)), some (.inl i), o5, o6], [], n, D, s, p, c) _
        refine tt_k 5 (S' := (679, [some (.inr (.inl 1000004)), some (.inr (.inl 0)), some (.inr (.inl 30)), some (.inr (.inl 47)), some (.inl i), o5, o6], [.inl (i + 1), .inr (.inl 1000004), .inr (.inl 0)], n, D, s, p, c)) rfl ?_
        refine tt_stat (j := 4) (i := (i + 1)) rfl hs (by omega) ?_
        show tt Zi 12 0 (680, [some (.inr (.inl 1000004)), some (.inr (.inl 0)), some (.inr (.inl 30)), some (.inr (.inl 47)), some (.inl i), o5, o6], [.inl ((xs ((i + 1)).toNat)), .inr (.inl 0)], n, D, s, p, c) _
        have b314 := hxs ((i + 1)).toNat
        refine tt_k 1 (S' := (681, [some (.inr (.inl 1000004)), some (.inr (.inl 0)), some (.inr (.inl 30)), some (.inr (.inl 47)), some (.inl i), o5, o6], [.inr (.inl 47), .inl ((xs ((i + 1)).toNat)), .inr (.inl 0)], n, D, s, p, c)) rfl ?_
        refine tt_cl (by omega) rfl (h_about (Zi := Zi) (q := q) (n := n) (D := D) (s := s) (p := p) (c := c) (by omega) hz (by omega) hD hS hC (wp_rg hW) ((xs ((i + 1)).toNat)) (by omega)) ?_
        rintro _ ⟨n315, D316, s317, p318, c319⟩ ⟨r321, rfl, b322, hY320, k323, k324⟩
        have p8c : p318 8 = p 8 := (hY320).2
        have hS317 : bS s317 := (hY320).1.1
        have hC319 : bC D316 c319 := (hY320).1.2.1
        have hW318 : wp _ _ n315 D316 p318 s317 := (hY320).1.2.2.1
        have FKc : fk p c n315 p318 c319 [47] := (hY320).1.2.2.2.1
        have FFc : fr s s317 [800, 801, 802, 803, 804, 805, 806, 807, 808, 809] := (hY320).1.2.2.2.2
        replace k323 : r321 = 0 → (0 ≤ ((xs ((i + 1)).toNat)) ∧ ((xs ((i + 1)).toNat)) ≤ 3) ∧ s 10 = 1 ∧ c319 47 0 = abV ((xs ((i + 1)).toNat)) s p := k323
        replace k324 : r321 ≠ 0 → (r321 = 1 ∧ ¬ (0 ≤ ((xs ((i + 1)).toNat)) ∧ ((xs ((i + 1)).toNat)) ≤ 3)) ∨ (r321 = 2 ∧ (0 ≤ ((xs ((i + 1)).toNat)) ∧ ((xs ((i + 1)).toNat)) ≤ 3) ∧ s 10 ≠ 1) := k324
        show tt Zi 12 0 (684, [some (.inr (.inl 1000004)), some (.inr (.inl 0)), some (.inr (.inl 30)), some (.inr (.inl 47)), some (.inl i), o5, o6], [.inl r321], n315, D316, s317, p318, c319) _
        have tc100 : s317 100 = (s 100) := hW318.gz 100 rfl
        have tc101 : s317 101 = (s 101) := hW318.gz 101 rfl
        have tc102 : s317 102 = (s 102) := hW318.gz 102 rfl
        have tc103 : s317 103 = (s 103) := hW318.gz 103 rfl
        have tc3001 : s317 3001 = (s 3001) := hW318.gz 3001 rfl
        have tc3002 : s317 3002 = (s 3002) := hW318.gz 3002 rfl
        have tc3003 : s317 3003 = (s 3003) := hW318.gz 3003 rfl
        have tc3004 : s317 3004 = (s 3004) := hW318.gz 3004 rfl
        refine tt_k 6 (S' := (692, [some (.inr (.inl 1000004)), some (.inr (.inl 0)), some (.inr (.inl 30)), some (.inr (.inl 47)), some (.inl i), some (.inl r321), o6], [.inl (i + 1), .inr (.inl 1000004), .inr (.inl 30)], n315, D316, s317, p318, c319)) rfl ?_
        refine tt_stat (j := 4) (i := (i + 1)) rfl hs (by omega) ?_
        show tt Zi 12 0 (693, [some (.inr (.inl 1000004)), some (.inr (.inl 0)), some (.inr (.inl 30)), some (.inr (.inl 47)), some (.inl i), some (.inl r321), o6], [.inl ((xs ((i + 1)).toNat)), .inr (.inl 30)], n315, D316, s317, p318, c319) _
        refine tt_cl (by omega) rfl (y_about (Zi := Zi) (D := D316) (s := s317) (p := p318) (c := c319) (by omega) hS317 hC319 ((xs ((i + 1)).toNat)) (by omega)) ?_
        rintro _ _ ⟨s325, r326, rfl, rfl, hS325, f327, b328, k329, k330⟩
        have hW331 := wp_rf f327 (by decide) hW318
        show tt Zi 12 0 (696, [some (.inr (.inl 1000004)), some (.inr (.inl 0)), some (.inr (.inl 30)), some (.inr (.inl 47)), some (.inl i), some (.inl r321), o6], [.inl r326], n315, D316, s325, p318, c319) _
        have te100 : s325 100 = (s317 100) := f327 100 (by decide)
        have te101 : s325 101 = (s317 101) := f327 101 (by decide)
        have te102 : s325 102 = (s317 102) := f327 102 (by decide)
        have te103 : s325 103 = (s317 103) := f327 103 (by decide)
        have te3001 : s325 3001 = (s317 3001) := f327 3001 (by decide)
        have te3002 : s325 3002 = (s317 3002) := f327 3002 (by decide)
        have te3003 : s325 3003 = (s317 3003) := f327 3003 (by decide)
        have te3004 : s325 3004 = (s317 3004) := f327 3004 (by decide)
        have ht2 : tie s325 := ⟨te100.trans (tc100.trans (ht.1.trans (tc3001.symm.trans te3001.symm))), te101.trans (tc101.trans (ht.2.1.trans (tc3002.symm.trans te3002.symm))), te102.trans (tc102.trans (ht.2.2.1.trans (tc3003.symm.trans te3003.symm))), te103.trans (tc103.trans (ht.2.2.2.trans (tc3004.symm.trans te3004.symm)))⟩
        have FKr := fk_rf (c := c319) (K := []) FKc.1
        have tS2 : tiS s325 p318 c319 := tiS_fk (tiS_fk ⟨E, hcE, hrE⟩ FKc (by decide) tc100 tc101 tc102) FKr (by decide) te100 te101 te102
        have q1 : tqC c319 := tqC_f hQ.1 FKc FKr (by decide)
        have q2 : tqW s325 := tqW_f (tqW_f hQ.2.1 FFc (by decide)) f327 (by decide)
        have q3 : tqP s325 p318 c319 := tqP_f hQ.2.2.1 FKc FKr (by decide) FFc (by decide) f327 (by decide)
        have q4 : tqT s325 := tqT_f (tqT_f hQ.2.2.2.1 FFc (by decide)) f327 (by decide)
        have q5 : tqB s325 p318 c319 := tqB_f hQ.2.2.2.2.1 FKc FKr (by decide) FFc (by decide) f327 (by decide)
        have q6 : tqU s325 p318 c319 := tqU_f hQ.2.2.2.2.2.1 FKc FKr (by decide) FFc (by decide) p8c f327 (by decide)
        have q7 : tqK p318 c319 := tqK_f ⟨KK, hK1, hK2⟩ FKc FKr (by decide)
        have hqo := ab_q hQ.2.2.2.2.2.1 (fr_in FFc (by decide)) k323 k324 k329 k330
        clear k329 k330 k323 k324
        have tQ2 : tiQ s325 p318 c319 := ⟨q1, q2, q3, q4, q5, q6, q7⟩
        clear tc100 tc101 tc102 tc103 tc3001 tc3002 tc3003 tc3004 te100 te101 te102 te103 te3001 te3002 te3003 te3004
        refine tt_k 4 (S' := (23, [some (.inr (.inl 1000004)), some (.inr (.inl 0)), some (.inr (.inl 30)), some (.inr (.inl 47)), some (.inl (i + 9)), some (.inl r321), some (.inl r326)], [], n315, D316, s325, p318, c319)) rfl ?_
        exact ih (q + 1) (i + 9) (some (.inl r321)) (some (.inl r326)) (n315, D316, s325, p318, c319) ⟨hS325, hC319, (wp_rg hW331), FKr.1⟩ ht2 tS2 tQ2 (by omega) (by omega) (by omega) (by omega)
      by_cases h332 : (mi_and (xs (i).toNat) 15) = 14
      · have h333 := h332
        refine tt_tsw (x := (mi_and (xs (i).toNat) 15)) (off := 661) rfl (by omega) (by omega) (by rw [h332]; rfl) rfl ?_
        show tt Zi 12 0 (701, [some (.inr (.inl 1000004)), some (.inr (.inl 0)), some (.inr (.inl 30)), some (.inr (.inl 47)), some (.inl i), o5, o6], [], n, D, s, p, c) _
        refine tt_k 5 (S' := (707, [some (.inr (.inl 1000004)), some (.inr (.inl 0)), some (.inr (.inl 30)), some (.inr (.inl 47)), some (.inl i), o5, o6], [.inl (i + 1), .inr (.inl 1000004), .inr (.inl 0)], n, D, s, p, c)) rfl ?_
        refine tt_stat (j := 4) (i := (i + 1)) rfl hs (by omega) ?_
        show tt Zi 12 0 (708, [some (.inr (.inl 1000004)), some (.inr (.inl 0)), some (.inr (.inl 30)), some (.inr (.inl 47)), some (.inl i), o5, o6], [.inl ((xs ((i + 1)).toNat)), .inr (.inl 0)], n, D, s, p, c) _
        have b334 := hxs ((i + 1)).toNat
        refine tt_k 4 (S' := (713, [some (.inr (.inl 1000004)), some (.inr (.inl 0)), some (.inr (.inl 30)), some (.inr (.inl 47)), some (.inl i), o5, o6], [.inl (i + 2), .inr (.inl 1000004), .inl ((xs ((i + 1)).toNat)), .inr (.inl 0)], n, D, s, p, c)) rfl ?_
        refine tt_stat (j := 4) (i := (i + 2)) rfl hs (by omega) ?_
        show tt Zi 12 0 (714, [some (.inr (.inl 1000004)), some (.inr (.inl 0)), some (.inr (.inl 30)), some (.inr (.inl 47)), some (.inl i), o5, o6], [.inl ((xs ((i + 2)).toNat)), .inl ((xs ((i + 1)).toNat)), .inr (.inl 0)], n, D, s, p, c) _
        have b335 := hxs ((i + 2)).toNat
        refine tt_k 4 (S' := (719, [some (.inr (.inl 1000004)), some (.inr (.inl 0)), some (.inr (.inl 30)), some (.inr (.inl 47)), some (.inl i), o5, o6], [.inl (i + 3), .inr (.inl 1000004), .inl ((xs ((i + 2)).toNat)), .inl ((xs ((i + 1)).toNat)), .inr (.inl 0)], n, D, s, p, c)) rfl ?_
        refine tt_stat (j := 4) (i := (i + 3)) rfl hs (by omega) ?_
        show tt Zi 12 0 (720, [some (.inr (.inl 1000004)), some (.inr (.inl 0)), some (.inr (.inl 30)), some (.inr (.inl 47)), some (.inl i), o5, o6], [.inl ((xs ((i + 3)).toNat)), .inl ((xs ((i + 2)).toNat)), .inl ((xs ((i + 1)).toNat)), .inr (.inl 0)], n, D, s, p, c) _
        have b336 := hxs ((i + 3)).toNat
        refine tt_k 1 (S' := (721, [some (.inr (.inl 1000004)), some (.inr (.inl 0)), some (.inr (.inl 30)), some (.inr (.inl 47)), some (.inl i), o5, o6], [.inr (.inl 47), .inl ((xs ((i + 3)).toNat)), .inl ((xs ((i + 2)).toNat)), .inl ((xs ((i + 1)).toNat)), .inr (.inl 0)], n, D, s, p, c)) rfl ?_
        refine tt_cl (by omega) rfl (h_sample (Zi := Zi) (q := q) (n := n) (D := D) (s := s) (p := p) (c := c) (by omega) hz (by omega) hD hS hC (wp_rg hW) ((xs ((i + 1)).toNat)) ((xs ((i + 2)).toNat)) ((xs ((i + 3)).toNat)) (by omega) (by omega) (by omega)) ?_
        rintro _ ⟨n337, D338, s339, p340, c341⟩ ⟨r343, rfl, b344, hY342, k345, k346⟩
        have p8c : p340 8 = p 8 := (hY342).2
        have hS339 : bS s339 := (hY342).1.1
        have hC341 : bC D338 c341 := (hY342).1.2.1
        have hW340 : wp _ _ n337 D338 p340 s339 := (hY342).1.2.2.1
        have FKc : fk p c n337 p340 c341 [47] := (hY342).1.2.2.2.1
        have FFc : fr s s339 [800, 801, 802, 803, 804, 805, 806, 807, 808, 809] := (hY342).1.2.2.2.2
        replace k345 : r343 = 0 → s 10 = 1 ∧ ((0 ≤ ((xs ((i + 1)).toNat)) ∧ ((xs ((i + 1)).toNat)) < s (100 * p 8 + 2)) ∧ (0 ≤ ((xs ((i + 2)).toNat)) ∧ ((xs ((i + 2)).toNat)) < s (100 * p 8)) ∧ (0 ≤ ((xs ((i + 3)).toNat)) ∧ ((xs ((i + 3)).toNat)) < s (100 * p 8 + 1))) ∧ c341 47 0 = c (p (100 * p 8 + 4)) ((((xs ((i + 1)).toNat)) * s (100 * p 8 + 1) + ((xs ((i + 3)).toNat))) * s (100 * p 8) + ((xs ((i + 2)).toNat))).toNat := k345
        replace k346 : r343 ≠ 0 → (r343 = 1 ∧ s 10 ≠ 1) ∨ (r343 = 2 ∧ s 10 = 1 ∧ ¬ ((0 ≤ ((xs ((i + 1)).toNat)) ∧ ((xs ((i + 1)).toNat)) < s (100 * p 8 + 2)) ∧ (0 ≤ ((xs ((i + 2)).toNat)) ∧ ((xs ((i + 2)).toNat)) < s (100 * p 8)) ∧ (0 ≤ ((xs ((i + 3)).toNat)) ∧ ((xs ((i + 3)).toNat)) < s (100 * p 8 + 1)))) := k346
        show tt Zi 12 0 (724, [some (.inr (.inl 1000004)), some (.inr (.inl 0)), some (.inr (.inl 30)), some (.inr (.inl 47)), some (.inl i), o5, o6], [.inl r343], n337, D338, s339, p340, c341) _
        have tc100 : s339 100 = (s 100) := hW340.gz 100 rfl
        have tc101 : s339 101 = (s 101) := hW340.gz 101 rfl
        have tc102 : s339 102 = (s 102) := hW340.gz 102 rfl
        have tc103 : s339 103 = (s 103) := hW340.gz 103 rfl
        have tc3001 : s339 3001 = (s 3001) := hW340.gz 3001 rfl
        have tc3002 : s339 3002 = (s 3002) := hW340.gz 3002 rfl
        have tc3003 : s339 3003 = (s 3003) := hW340.gz 3003 rfl
        have tc3004 : s339 3004 = (s 3004) := hW340.gz 3004 rfl
        refine tt_k 6 (S' := (732, [some (.inr (.inl 1000004)), some (.inr (.inl 0)), some (.inr (.inl 30)), some (.inr (.inl 47)), some (.inl i), some (.inl r343), o6], [.inl (i + 1), .inr (.inl 1000004), .inr (.inl 30)], n337, D338, s339, p340, c341)) rfl ?_
        refine tt_stat (j := 4) (i := (i + 1)) rfl hs (by omega) ?_
        show tt Zi 12 0 (733, [some (.inr (.inl 1000004)), some (.inr (.inl 0)), some (.inr (.inl 30)), some (.inr (.inl 47)), some (.inl i), some (.inl r343), o6], [.inl ((xs ((i + 1)).toNat)), .inr (.inl 30)], n337, D338, s339, p340, c341) _
        refine tt_k 4 (S' := (738, [some (.inr (.inl 1000004)), some (.inr (.inl 0)), some (.inr (.inl 30)), some (.inr (.inl 47)), some (.inl i), some (.inl r343), o6], [.inl (i + 2), .inr (.inl 1000004), .inl ((xs ((i + 1)).toNat)), .inr (.inl 30)], n337, D338, s339, p340, c341)) rfl ?_
        refine tt_stat (j := 4) (i := (i + 2)) rfl hs (by omega) ?_
        show tt Zi 12 0 (739, [some (.inr (.inl 1000004)), some (.inr (.inl 0)), some (.inr (.inl 30)), some (.inr (.inl 47)), some (.inl i), some (.inl r343), o6], [.inl ((xs ((i + 2)).toNat)), .inl ((xs ((i + 1)).toNat)), .inr (.inl 30)], n337, D338, s339, p340, c341) _
        refine tt_k 4 (S' := (744, [some (.inr (.inl 1000004)), some (.inr (.inl 0)), some (.inr (.inl 30)), some (.inr (.inl 47)), some (.inl i), some (.inl r343), o6], [.inl (i + 3), .inr (.inl 1000004), .inl ((xs ((i + 2)).toNat)), .inl ((xs ((i + 1)).toNat)), .inr (.inl 30)], n337, D338, s339, p340, c341)) rfl ?_
        refine tt_stat (j := 4) (i := (i + 3)) rfl hs (by omega) ?_
        show tt Zi 12 0 (745, [some (.inr (.inl 1000004)), some (.inr (.inl 0)), some (.inr (.inl 30)), some (.inr (.inl 47)), some (.inl i), some (.inl r343), o6], [.inl ((xs ((i + 3)).toNat)), .inl ((xs ((i + 2)).toNat)), .inl ((xs ((i + 1)).toNat)), .inr (.inl 30)], n337, D338, s339, p340, c341) _
        refine tt_cl (by omega) rfl (y_sample (Zi := Zi) (D := D338) (s := s339) (p := p340) (c := c341) (by omega) hS339 hC341 ((xs ((i + 1)).toNat)) ((xs ((i + 2)).toNat)) ((xs ((i + 3)).toNat)) (by omega) (by omega) (by omega)) ?_
        rintro _ _ ⟨s347, r348, rfl, rfl, hS347, f349, b350, k351, k352⟩
        have hW353 := wp_rf f349 (by decide) hW340
        show tt Zi 12 0 (748, [some (.inr (.inl 1000004)), some (.inr (.inl 0)), some (.inr (.inl 30)), some (.inr (.inl 47)), some (.inl i), some (.inl r343), o6], [.inl r348], n337, D338, s347, p340, c341) _
        have te100 : s347 100 = (s339 100) := f349 100 (by decide)
        have te101 : s347 101 = (s339 101) := f349 101 (by decide)
        have te102 : s347 102 = (s339 102) := f349 102 (by decide)
        have te103 : s347 103 = (s339 103) := f349 103 (by decide)
        have te3001 : s347 3001 = (s339 3001) := f349 3001 (by decide)
        have te3002 : s347 3002 = (s339 3002) := f349 3002 (by decide)
        have te3003 : s347 3003 = (s339 3003) := f349 3003 (by decide)
        have te3004 : s347 3004 = (s339 3004) := f349 3004 (by decide)
        have ht2 : tie s347 := ⟨te100.trans (tc100.trans (ht.1.trans (tc3001.symm.trans te3001.symm))), te101.trans (tc101.trans (ht.2.1.trans (tc3002.symm.trans te3002.symm))), te102.trans (tc102.trans (ht.2.2.1.trans (tc3003.symm.trans te3003.symm))), te103.trans (tc103.trans (ht.2.2.2.trans (tc3004.symm.trans te3004.symm)))⟩
        have FKr := fk_rf (c := c341) (K := []) FKc.1
        have tS2 : tiS s347 p340 c341 := tiS_fk (tiS_fk ⟨E, hcE, hrE⟩ FKc (by decide) tc100 tc101 tc102) FKr (by decide) te100 te101 te102
        have q1 : tqC c341 := tqC_f hQ.1 FKc FKr (by decide)
        have q2 : tqW s347 := tqW_f (tqW_f hQ.2.1 FFc (by decide)) f349 (by decide)
        have q3 : tqP s347 p340 c341 := tqP_f hQ.2.2.1 FKc FKr (by decide) FFc (by decide) f349 (by decide)
        have q4 : tqT s347 := tqT_f (tqT_f hQ.2.2.2.1 FFc (by decide)) f349 (by decide)
        have q5 : tqB s347 p340 c341 := tqB_f hQ.2.2.2.2.1 FKc FKr (by decide) FFc (by decide) f349 (by decide)
        have q6 : tqU s347 p340 c341 := tqU_f hQ.2.2.2.2.2.1 FKc FKr (by decide) FFc (by decide) p8c f349 (by decide)
        have q7 : tqK p340 c341 := tqK_f ⟨KK, hK1, hK2⟩ FKc FKr (by decide)
        have hqo := sm_q hQ.2.2.2.2.2.1 FKc (by decide) (fr_in FFc (by decide)) k345 k346 k351 k352
        clear k351 k352 k345 k346
        have tQ2 : tiQ s347 p340 c341 := ⟨q1, q2, q3, q4, q5, q6, q7⟩
        clear tc100 tc101 tc102 tc103 tc3001 tc3002 tc3003 tc3004 te100 te101 te102 te103 te3001 te3002 te3003 te3004
        refine tt_k 4 (S' := (23, [some (.inr (.inl 1000004)), some (.inr (.inl 0)), some (.inr (.inl 30)), some (.inr (.inl 47)), some (.inl (i + 9)), some (.inl r343), some (.inl r348)], [], n337, D338, s347, p340, c341)) rfl ?_
        exact ih (q + 1) (i + 9) (some (.inl r343)) (some (.inl r348)) (n337, D338, s347, p340, c341) ⟨hS347, hC341, (wp_rg hW353), FKr.1⟩ ht2 tS2 tQ2 (by omega) (by omega) (by omega) (by omega)
      by_cases h354 : (mi_and (xs (i).toNat) 15) = 15
      · have h355 := h354
        refine tt_tsw (x := (mi_and (xs (i).toNat) 15)) (off := 713) rfl (by omega) (by omega) (by rw [h354]; rfl) rfl ?_
        show tt Zi 12 0 (753, [some (.inr (.inl 1000004)), some (.inr (.inl 0)), some (.inr (.inl 30)), some (.inr (.inl 47)), some (.inl i), o5, o6], [], n, D, s, p, c) _
        refine tt_k 5 (S' := (759, [some (.inr (.inl 1000004)), some (.inr (.inl 0)), some (.inr (.inl 30)), some (.inr (.inl 47)), some (.inl i), o5, o6], [.inl (i + 1), .inr (.inl 1000004), .inr (.inl 0)], n, D, s, p, c)) rfl ?_
        refine tt_stat (j := 4) (i := (i + 1)) rfl hs (by omega) ?_
        show tt Zi 12 0 (760, [some (.inr (.inl 1000004)), some (.inr (.inl 0)), some (.inr (.inl 30)), some (.inr (.inl 47)), some (.inl i), o5, o6], [.inl ((xs ((i + 1)).toNat)), .inr (.inl 0)], n, D, s, p, c) _
        have b356 := hxs ((i + 1)).toNat
        refine tt_k 4 (S' := (765, [some (.inr (.inl 1000004)), some (.inr (.inl 0)), some (.inr (.inl 30)), some (.inr (.inl 47)), some (.inl i), o5, o6], [.inl (i + 2), .inr (.inl 1000004), .inl ((xs ((i + 1)).toNat)), .inr (.inl 0)], n, D, s, p, c)) rfl ?_
        refine tt_stat (j := 4) (i := (i + 2)) rfl hs (by omega) ?_
        show tt Zi 12 0 (766, [some (.inr (.inl 1000004)), some (.inr (.inl 0)), some (.inr (.inl 30)), some (.inr (.inl 47)), some (.inl i), o5, o6], [.inl ((xs ((i + 2)).toNat)), .inl ((xs ((i + 1)).toNat)), .inr (.inl 0)], n, D, s, p, c) _
        have b357 := hxs ((i + 2)).toNat
        refine tt_k 1 (S' := (767, [some (.inr (.inl 1000004)), some (.inr (.inl 0)), some (.inr (.inl 30)), some (.inr (.inl 47)), some (.inl i), o5, o6], [.inr (.inl 47), .inl ((xs ((i + 2)).toNat)), .inl ((xs ((i + 1)).toNat)), .inr (.inl 0)], n, D, s, p, c)) rfl ?_
        refine tt_cl (by omega) rfl (h_learned (Zi := Zi) (q := q) (n := n) (D := D) (s := s) (p := p) (c := c) (by omega) hz (by omega) hD hS hC (wp_rg hW) ((xs ((i + 1)).toNat)) ((xs ((i + 2)).toNat)) (by omega) (by omega)) ?_
        rintro _ ⟨n358, D359, s360, p361, c362⟩ ⟨r364, rfl, b365, hY363, k366, k367⟩
        have p8c : p361 8 = p 8 := (hY363).2
        have hS360 : bS s360 := (hY363).1.1
        have hC362 : bC D359 c362 := (hY363).1.2.1
        have hW361 : wp _ _ n358 D359 p361 s360 := (hY363).1.2.2.1
        have FKc : fk p c n358 p361 c362 [47] := (hY363).1.2.2.2.1
        have FFc : fr s s360 [800, 801, 802, 803, 804, 805, 806, 807, 808, 809] := (hY363).1.2.2.2.2
        replace k366 : r364 = 0 → ((0 ≤ ((xs ((i + 1)).toNat)) ∧ ((xs ((i + 1)).toNat)) < 367) ∧ (0 ≤ ((xs ((i + 2)).toNat)) ∧ ((xs ((i + 2)).toNat)) < 4)) ∧ c362 47 0 = c (p 900) (4 * ((xs ((i + 1)).toNat)) + ((xs ((i + 2)).toNat))).toNat := k366
        replace k367 : r364 ≠ 0 → (r364 = 1 ∧ ¬ (0 ≤ ((xs ((i + 1)).toNat)) ∧ ((xs ((i + 1)).toNat)) < 367)) ∨ (r364 = 2 ∧ (0 ≤ ((xs ((i + 1)).toNat)) ∧ ((xs ((i + 1)).toNat)) < 367) ∧ ¬ (0 ≤ ((xs ((i + 2)).toNat)) ∧ ((xs ((i + 2)).toNat)) < 4)) := k367
        show tt Zi 12 0 (770, [some (.inr (.inl 1000004)), some (.inr (.inl 0)), some (.inr (.inl 30)), some (.inr (.inl 47)), some (.inl i), o5, o6], [.inl r364], n358, D359, s360, p361, c362) _
        have tc100 : s360 100 = (s 100) := hW361.gz 100 rfl
        have tc101 : s360 101 = (s 101) := hW361.gz 101 rfl
        have tc102 : s360 102 = (s 102) := hW361.gz 102 rfl
        have tc103 : s360 103 = (s 103) := hW361.gz 103 rfl
        have tc3001 : s360 3001 = (s 3001) := hW361.gz 3001 rfl
        have tc3002 : s360 3002 = (s 3002) := hW361.gz 3002 rfl
        have tc3003 : s360 3003 = (s 3003) := hW361.gz 3003 rfl
        have tc3004 : s360 3004 = (s 3004) := hW361.gz 3004 rfl
        refine tt_k 6 (S' := (778, [some (.inr (.inl 1000004)), some (.inr (.inl 0)), some (.inr (.inl 30)), some (.inr (.inl 47)), some (.inl i), some (.inl r364), o6], [.inl (i + 1), .inr (.inl 1000004), .inr (.inl 30)], n358, D359, s360, p361, c362)) rfl ?_
        refine tt_stat (j := 4) (i := (i + 1)) rfl hs (by omega) ?_
        show tt Zi 12 0 (779, [some (.inr (.inl 1000004)), some (.inr (.inl 0)), some (.inr (.inl 30)), some (.inr (.inl 47)), some (.inl i), some (.inl r364), o6], [.inl ((xs ((i + 1)).toNat)), .inr (.inl 30)], n358, D359, s360, p361, c362) _
        refine tt_k 4 (S' := (784, [some (.inr (.inl 1000004)), some (.inr (.inl 0)), some (.inr (.inl 30)), some (.inr (.inl 47)), some (.inl i), some (.inl r364), o6], [.inl (i + 2), .inr (.inl 1000004), .inl ((xs ((i + 1)).toNat)), .inr (.inl 30)], n358, D359, s360, p361, c362)) rfl ?_
        refine tt_stat (j := 4) (i := (i + 2)) rfl hs (by omega) ?_
        show tt Zi 12 0 (785, [some (.inr (.inl 1000004)), some (.inr (.inl 0)), some (.inr (.inl 30)), some (.inr (.inl 47)), some (.inl i), some (.inl r364), o6], [.inl ((xs ((i + 2)).toNat)), .inl ((xs ((i + 1)).toNat)), .inr (.inl 30)], n358, D359, s360, p361, c362) _
        refine tt_cl (by omega) rfl (y_learned (Zi := Zi) (D := D359) (s := s360) (p := p361) (c := c362) (by omega) hS360 hC362 ((xs ((i + 1)).toNat)) ((xs ((i + 2)).toNat)) (by omega) (by omega)) ?_
        rintro _ _ ⟨s368, r369, rfl, rfl, hS368, f370, b371, k372, k373⟩
        have hW374 := wp_rf f370 (by decide) hW361
        show tt Zi 12 0 (788, [some (.inr (.inl 1000004)), some (.inr (.inl 0)), some (.inr (.inl 30)), some (.inr (.inl 47)), some (.inl i), some (.inl r364), o6], [.inl r369], n358, D359, s368, p361, c362) _
        have te100 : s368 100 = (s360 100) := f370 100 (by decide)
        have te101 : s368 101 = (s360 101) := f370 101 (by decide)
        have te102 : s368 102 = (s360 102) := f370 102 (by decide)
        have te103 : s368 103 = (s360 103) := f370 103 (by decide)
        have te3001 : s368 3001 = (s360 3001) := f370 3001 (by decide)
        have te3002 : s368 3002 = (s360 3002) := f370 3002 (by decide)
        have te3003 : s368 3003 = (s360 3003) := f370 3003 (by decide)
        have te3004 : s368 3004 = (s360 3004) := f370 3004 (by decide)
        have ht2 : tie s368 := ⟨te100.trans (tc100.trans (ht.1.trans (tc3001.symm.trans te3001.symm))), te101.trans (tc101.trans (ht.2.1.trans (tc3002.symm.trans te3002.symm))), te102.trans (tc102.trans (ht.2.2.1.trans (tc3003.symm.trans te3003.symm))), te103.trans (tc103.trans (ht.2.2.2.trans (tc3004.symm.trans te3004.symm)))⟩
        have FKr := fk_rf (c := c362) (K := []) FKc.1
        have tS2 : tiS s368 p361 c362 := tiS_fk (tiS_fk ⟨E, hcE, hrE⟩ FKc (by decide) tc100 tc101 tc102) FKr (by decide) te100 te101 te102
        have q1 : tqC c362 := tqC_f hQ.1 FKc FKr (by decide)
        have q2 : tqW s368 := tqW_f (tqW_f hQ.2.1 FFc (by decide)) f370 (by decide)
        have q3 : tqP s368 p361 c362 := tqP_f hQ.2.2.1 FKc FKr (by decide) FFc (by decide) f370 (by decide)
        have q4 : tqT s368 := tqT_f (tqT_f hQ.2.2.2.1 FFc (by decide)) f370 (by decide)
        have q5 : tqB s368 p361 c362 := tqB_f hQ.2.2.2.2.1 FKc FKr (by decide) FFc (by decide) f370 (by decide)
        have q6 : tqU s368 p361 c362 := tqU_f hQ.2.2.2.2.2.1 FKc FKr (by decide) FFc (by decide) p8c f370 (by decide)
        have q7 : tqK p361 c362 := tqK_f ⟨KK, hK1, hK2⟩ FKc FKr (by decide)
        have hqo := lr_q hK1 (mrl_fk hK2 FKc (by decide)) k366 k367 k372 k373
        clear k372 k373 k366 k367
        have tQ2 : tiQ s368 p361 c362 := ⟨q1, q2, q3, q4, q5, q6, q7⟩
        clear tc100 tc101 tc102 tc103 tc3001 tc3002 tc3003 tc3004 te100 te101 te102 te103 te3001 te3002 te3003 te3004
        refine tt_k 2 (S' := (791, [some (.inr (.inl 1000004)), some (.inr (.inl 0)), some (.inr (.inl 30)), some (.inr (.inl 47)), some (.inl i), some (.inl r364), some (.inl r369)], [.inr (.inl 30)], n358, D359, s368, p361, c362)) rfl ?_
        refine tt_cl (by omega) rfl (k_thrown (Zi := Zi) (D := D359) (s := s368) (p := p361) (c := c362) (by omega) hS368 hC362 ) ?_
        rintro _ _ ⟨r375, rfl, rfl, b376, k377⟩
        show tt Zi 12 0 (794, [some (.inr (.inl 1000004)), some (.inr (.inl 0)), some (.inr (.inl 30)), some (.inr (.inl 47)), some (.inl i), some (.inl r364), some (.inl r369)], [.inl r375], n358, D359, s368, p361, c362) _
        refine tt_k 1 (S' := (796, [some (.inr (.inl 1000004)), some (.inr (.inl 0)), some (.inr (.inl 30)), some (.inr (.inl 47)), some (.inl i), some (.inl r364), some (.inl r369)], [.inl r364, .inl r375], n358, D359, s368, p361, c362)) rfl ?_
        refine tb_eq (x := r375) (y := r364) rfl rfl (by omega) (fun h378 => ?_) (fun h378 => ?_)
        · show tt Zi 12 0 (801, [some (.inr (.inl 1000004)), some (.inr (.inl 0)), some (.inr (.inl 30)), some (.inr (.inl 47)), some (.inl i), some (.inl r364), some (.inl r369)], [], n358, D359, s368, p361, c362) _
          refine tt_k 1 (S' := (803, [some (.inr (.inl 1000004)), some (.inr (.inl 0)), some (.inr (.inl 30)), some (.inr (.inl 47)), some (.inl i), some (.inl r364), some (.inl r369)], [.inl r364], n358, D359, s368, p361, c362)) rfl ?_
          refine tz_ne (x := r364) rfl rfl (by omega) (fun h379 => ?_) (fun h379 => ?_)
          · show tt Zi 12 0 (818, [some (.inr (.inl 1000004)), some (.inr (.inl 0)), some (.inr (.inl 30)), some (.inr (.inl 47)), some (.inl i), some (.inl r364), some (.inl r369)], [], n358, D359, s368, p361, c362) _
            refine tt_k 3 (S' := (23, [some (.inr (.inl 1000004)), some (.inr (.inl 0)), some (.inr (.inl 30)), some (.inr (.inl 47)), some (.inl (i + 9)), some (.inl r364), some (.inl r369)], [], n358, D359, s368, p361, c362)) rfl ?_
            exact ih (q + 1) (i + 9) (some (.inl r364)) (some (.inl r369)) (n358, D359, s368, p361, c362) ⟨hS368, hC362, (wp_rg hW374), FKr.1⟩ ht2 tS2 tQ2 (by omega) (by omega) (by omega) (by omega)
          · show tt Zi 12 0 (806, [some (.inr (.inl 1000004)), some (.inr (.inl 0)), some (.inr (.inl 30)), some (.inr (.inl 47)), some (.inl i), some (.inl r364), some (.inl r369)], [], n358, D359, s368, p361, c362) _
            refine tt_k 2 (S' := (808, [some (.inr (.inl 1000004)), some (.inr (.inl 0)), some (.inr (.inl 30)), some (.inr (.inl 47)), some (.inl i), some (.inl r364), some (.inl r369)], [.inl 0, .inr (.inl 47)], n358, D359, s368, p361, c362)) rfl ?_
            refine tt_llb (a := 47) (i := 0) (m := 1) rfl rfl (by omega) hC362 ⟨rfl, rfl⟩ ?_
            intro v380 bv380 hvv380
            have hwv380 : c362 47 0 = v380 := hvv380
            show tt Zi 12 0 (809, [some (.inr (.inl 1000004)), some (.inr (.inl 0)), some (.inr (.inl 30)), some (.inr (.inl 47)), some (.inl i), some (.inl r364), some (.inl r369)], [.inr (.inr v380)], n358, D359, s368, p361, c362) _
            refine tt_k 1 (S' := (811, [some (.inr (.inl 1000004)), some (.inr (.inl 0)), some (.inr (.inl 30)), some (.inr (.inl 47)), some (.inl i), some (.inl r364), some (.inl r369)], [.inl r369, .inr (.inr v380)], n358, D359, s368, p361, c362)) rfl ?_
            refine tt_i2l (x := r369) rfl (by omega) ?_
            refine tt_k 1 (S' := (813, [some (.inr (.inl 1000004)), some (.inr (.inl 0)), some (.inr (.inl 30)), some (.inr (.inl 47)), some (.inl i), some (.inl r364), some (.inl r369)], [.inl (mi_lcmp v380 r369)], n358, D359, s368, p361, c362)) rfl ?_
            have b381 := mi_lcmp_eq (x := v380) (y := r369) (by omega) (by omega)
            have e382 := mi_lcmp_lt (x := v380) (y := r369) (by omega) (by omega)
            refine tz_eq (x := (mi_lcmp v380 r369)) rfl rfl (by omega) (fun h383 => ?_) (fun h383 => ?_)
            · show tt Zi 12 0 (818, [some (.inr (.inl 1000004)), some (.inr (.inl 0)), some (.inr (.inl 30)), some (.inr (.inl 47)), some (.inl i), some (.inl r364), some (.inl r369)], [], n358, D359, s368, p361, c362) _
              refine tt_k 3 (S' := (23, [some (.inr (.inl 1000004)), some (.inr (.inl 0)), some (.inr (.inl 30)), some (.inr (.inl 47)), some (.inl (i + 9)), some (.inl r364), some (.inl r369)], [], n358, D359, s368, p361, c362)) rfl ?_
              exact ih (q + 1) (i + 9) (some (.inl r364)) (some (.inl r369)) (n358, D359, s368, p361, c362) ⟨hS368, hC362, (wp_rg hW374), FKr.1⟩ ht2 tS2 tQ2 (by omega) (by omega) (by omega) (by omega)
            · show tt Zi 12 0 (816, [some (.inr (.inl 1000004)), some (.inr (.inl 0)), some (.inr (.inl 30)), some (.inr (.inl 47)), some (.inl i), some (.inl r364), some (.inl r369)], [], n358, D359, s368, p361, c362) _
              refine tt_k 1 (S' := (817, [some (.inr (.inl 1000004)), some (.inr (.inl 0)), some (.inr (.inl 30)), some (.inr (.inl 47)), some (.inl i), some (.inl r364), some (.inl r369)], [.inl 0], n358, D359, s368, p361, c362)) rfl ?_
              exfalso
              omega
        · show tt Zi 12 0 (799, [some (.inr (.inl 1000004)), some (.inr (.inl 0)), some (.inr (.inl 30)), some (.inr (.inl 47)), some (.inl i), some (.inl r364), some (.inl r369)], [], n358, D359, s368, p361, c362) _
          refine tt_k 1 (S' := (800, [some (.inr (.inl 1000004)), some (.inr (.inl 0)), some (.inr (.inl 30)), some (.inr (.inl 47)), some (.inl i), some (.inl r364), some (.inl r369)], [.inl 0], n358, D359, s368, p361, c362)) rfl ?_
          exfalso
          omega
      refine tt_tsd (x := (mi_and (xs (i).toNat) 15)) rfl (by omega) (by omega) rfl ?_
      show tt Zi 12 0 (821, [some (.inr (.inl 1000004)), some (.inr (.inl 0)), some (.inr (.inl 30)), some (.inr (.inl 47)), some (.inl i), o5, o6], [], n, D, s, p, c) _
      refine tt_k 2 (S' := (23, [some (.inr (.inl 1000004)), some (.inr (.inl 0)), some (.inr (.inl 30)), some (.inr (.inl 47)), some (.inl (i + 9)), o5, o6], [], n, D, s, p, c)) rfl ?_
      exact ih q (i + 9) (o5) (o6) (n, D, s, p, c) ⟨hS, hC, (wp_rg hW), hD⟩ ht ⟨E, hcE, hrE⟩ hQ (by omega) (by omega) (by omega) (by omega)
