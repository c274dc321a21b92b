/-! the law's loop -/
def lawQ : mi_Rs → mi_H → Prop := fun R H => R = .inl (some (.inl 1)) ∧ cW 520 H
set_option maxRecDepth 100000 in
set_option maxHeartbeats 8000000 in
theorem law_L {Zi : Nat → Option (Nat × (Nat → Int))} {L : Nat} {xs : Nat → Int} (hz : zk Zi) (hs : Zi 4 = some (L, xs)) (hxs : ∀ i, -2147483648 ≤ xs i ∧ xs i ≤ 2147483647) (hL : L ≤ 4608) : ∀ (m q : Nat) (i : Int) (o5 o6 : Option mi_V) (H : mi_H), cW q H → 0 ≤ i → 9 * (q : Int) ≤ i → i ≤ 4617 → (4700 - i).toNat < m → tt Zi 12 0 (23, [some (.inr (.inl 1000004)), some (.inr (.inl 0)), some (.inr (.inl 30)), some (.inr (.inl 47)), some (.inl i), o5, o6], [], H) lawQ := by
  intro m
  induction m with
  | zero => intro q i o5 o6 H _ _ _ _ h; exact absurd h (by omega)
  | succ m ih =>
    intro q i o5 o6 H hH hi0 hq hi1 hm
    obtain ⟨n, D, s, p, c⟩ := H
    have hS : bS s := hH.1
    have hC : bC D c := hH.2.1
    have hW : wp q n D p s := hH.2.2
    have hd : 12 ≤ 12 := Nat.le_refl 12
    refine tt_k 2 (S' := (26, [some (.inr (.inl 1000004)), some (.inr (.inl 0)), some (.inr (.inl 30)), some (.inr (.inl 47)), some (.inl i), o5, o6], [.inr (.inl 1000004), .inl i], n, D, s, p, c)) rfl ?_
    refine tt_lno (j := 4) rfl hs ?_
    show tt Zi 12 0 (27, [some (.inr (.inl 1000004)), some (.inr (.inl 0)), some (.inr (.inl 30)), some (.inr (.inl 47)), some (.inl i), o5, o6], [.inl (L : Int), .inl i], n, D, s, p, c) _
    refine tt_k 2 (S' := (30, [some (.inr (.inl 1000004)), some (.inr (.inl 0)), some (.inr (.inl 30)), some (.inr (.inl 47)), some (.inl i), o5, o6], [.inl ((L : Int) - 9), .inl i], n, D, s, p, c)) rfl ?_
    refine tb_gt (x := i) (y := ((L : Int) - 9)) rfl rfl (by omega) (fun h1 => ?_) (fun h1 => ?_)
    · show tt Zi 12 0 (810, [some (.inr (.inl 1000004)), some (.inr (.inl 0)), some (.inr (.inl 30)), some (.inr (.inl 47)), some (.inl i), o5, o6], [], n, D, s, p, c) _
      refine tt_k 1 (S' := (811, [some (.inr (.inl 1000004)), some (.inr (.inl 0)), some (.inr (.inl 30)), some (.inr (.inl 47)), some (.inl i), o5, o6], [.inl 1], n, D, s, p, c)) rfl ?_
      exact tt_rtb rfl rfl (by omega) ⟨rfl, cW_mono (q := q) ⟨hS, hC, hW⟩ (by omega)⟩
    · show tt Zi 12 0 (33, [some (.inr (.inl 1000004)), some (.inr (.inl 0)), some (.inr (.inl 30)), some (.inr (.inl 47)), some (.inl i), o5, o6], [], n, D, s, p, c) _
      refine tt_k 2 (S' := (36, [some (.inr (.inl 1000004)), some (.inr (.inl 0)), some (.inr (.inl 30)), some (.inr (.inl 47)), some (.inl i), o5, o6], [.inl i, .inr (.inl 1000004)], n, D, s, p, c)) rfl ?_
      refine tt_stat (j := 4) (i := i) rfl hs (by omega) ?_
      show tt Zi 12 0 (37, [some (.inr (.inl 1000004)), some (.inr (.inl 0)), some (.inr (.inl 30)), some (.inr (.inl 47)), some (.inl i), o5, o6], [.inl (xs (i).toNat)], n, D, s, p, c) _
      have b2 := hxs (i).toNat
      refine tt_k 2 (S' := (40, [some (.inr (.inl 1000004)), some (.inr (.inl 0)), some (.inr (.inl 30)), some (.inr (.inl 47)), some (.inl i), o5, o6], [.inl ((mi_and (xs (i).toNat) 15))], n, D, s, p, c)) rfl ?_
      have e3 := mi_and15 (xs (i).toNat)
      by_cases h4 : (mi_and (xs (i).toNat) 15) = 0
      · have h5 := h4
        refine tt_tsw (x := (mi_and (xs (i).toNat) 15)) (off := 80) rfl (by omega) (by omega) (by rw [h4]; rfl) rfl ?_
        show tt Zi 12 0 (120, [some (.inr (.inl 1000004)), some (.inr (.inl 0)), some (.inr (.inl 30)), some (.inr (.inl 47)), some (.inl i), o5, o6], [], n, D, s, p, c) _
        refine tt_k 5 (S' := (126, [some (.inr (.inl 1000004)), some (.inr (.inl 0)), some (.inr (.inl 30)), some (.inr (.inl 47)), some (.inl i), o5, o6], [.inl (i + 1), .inr (.inl 1000004), .inr (.inl 0)], n, D, s, p, c)) rfl ?_
        refine tt_stat (j := 4) (i := (i + 1)) rfl hs (by omega) ?_
        show tt Zi 12 0 (127, [some (.inr (.inl 1000004)), some (.inr (.inl 0)), some (.inr (.inl 30)), some (.inr (.inl 47)), some (.inl i), o5, o6], [.inl ((xs ((i + 1)).toNat)), .inr (.inl 0)], n, D, s, p, c) _
        have b6 := hxs ((i + 1)).toNat
        refine tt_k 4 (S' := (132, [some (.inr (.inl 1000004)), some (.inr (.inl 0)), some (.inr (.inl 30)), some (.inr (.inl 47)), some (.inl i), o5, o6], [.inl (i + 2), .inr (.inl 1000004), .inl ((xs ((i + 1)).toNat)), .inr (.inl 0)], n, D, s, p, c)) rfl ?_
        refine tt_stat (j := 4) (i := (i + 2)) rfl hs (by omega) ?_
        show tt Zi 12 0 (133, [some (.inr (.inl 1000004)), some (.inr (.inl 0)), some (.inr (.inl 30)), some (.inr (.inl 47)), some (.inl i), o5, o6], [.inl ((xs ((i + 2)).toNat)), .inl ((xs ((i + 1)).toNat)), .inr (.inl 0)], n, D, s, p, c) _
        have b7 := hxs ((i + 2)).toNat
        refine tt_k 4 (S' := (138, [some (.inr (.inl 1000004)), some (.inr (.inl 0)), some (.inr (.inl 30)), some (.inr (.inl 47)), some (.inl i), o5, o6], [.inl (i + 3), .inr (.inl 1000004), .inl ((xs ((i + 2)).toNat)), .inl ((xs ((i + 1)).toNat)), .inr (.inl 0)], n, D, s, p, c)) rfl ?_
        refine tt_stat (j := 4) (i := (i + 3)) rfl hs (by omega) ?_
        show tt Zi 12 0 (139, [some (.inr (.inl 1000004)), some (.inr (.inl 0)), some (.inr (.inl 30)), some (.inr (.inl 47)), some (.inl i), o5, o6], [.inl ((xs ((i + 3)).toNat)), .inl ((xs ((i + 2)).toNat)), .inl ((xs ((i + 1)).toNat)), .inr (.inl 0)], n, D, s, p, c) _
        have b8 := hxs ((i + 3)).toNat
        refine tt_k 4 (S' := (144, [some (.inr (.inl 1000004)), some (.inr (.inl 0)), some (.inr (.inl 30)), some (.inr (.inl 47)), some (.inl i), o5, o6], [.inl (i + 4), .inr (.inl 1000004), .inl ((xs ((i + 3)).toNat)), .inl ((xs ((i + 2)).toNat)), .inl ((xs ((i + 1)).toNat)), .inr (.inl 0)], n, D, s, p, c)) rfl ?_
        refine tt_stat (j := 4) (i := (i + 4)) rfl hs (by omega) ?_
        show tt Zi 12 0 (145, [some (.inr (.inl 1000004)), some (.inr (.inl 0)), some (.inr (.inl 30)), some (.inr (.inl 47)), some (.inl i), o5, o6], [.inl ((xs ((i + 4)).toNat)), .inl ((xs ((i + 3)).toNat)), .inl ((xs ((i + 2)).toNat)), .inl ((xs ((i + 1)).toNat)), .inr (.inl 0)], n, D, s, p, c) _
        have b9 := hxs ((i + 4)).toNat
        refine tt_cl (by omega) rfl (h_canvas (Zi := Zi) (q := q) (n := n) (D := D) (s := s) (p := p) (c := c) (by omega) hz (by omega) hS hC hW ((xs ((i + 1)).toNat)) ((xs ((i + 2)).toNat)) ((xs ((i + 3)).toNat)) ((xs ((i + 4)).toNat)) (by omega) (by omega) (by omega) (by omega)) ?_
        rintro _ ⟨n10, D11, s12, p13, c14⟩ ⟨r16, rfl, b17, hY15, k18⟩
        have hS12 : bS s12 := hY15.1
        have hC14 : bC D11 c14 := hY15.2.1
        have hW13 : wp _ n10 D11 p13 s12 := hY15.2.2
        show tt Zi 12 0 (148, [some (.inr (.inl 1000004)), some (.inr (.inl 0)), some (.inr (.inl 30)), some (.inr (.inl 47)), some (.inl i), o5, o6], [.inl r16], n10, D11, s12, p13, c14) _
        refine tt_k 6 (S' := (156, [some (.inr (.inl 1000004)), some (.inr (.inl 0)), some (.inr (.inl 30)), some (.inr (.inl 47)), some (.inl i), some (.inl r16), o6], [.inl (i + 1), .inr (.inl 1000004), .inr (.inl 30)], n10, D11, s12, p13, c14)) rfl ?_
        refine tt_stat (j := 4) (i := (i + 1)) rfl hs (by omega) ?_
        show tt Zi 12 0 (157, [some (.inr (.inl 1000004)), some (.inr (.inl 0)), some (.inr (.inl 30)), some (.inr (.inl 47)), some (.inl i), some (.inl r16), o6], [.inl ((xs ((i + 1)).toNat)), .inr (.inl 30)], n10, D11, s12, p13, c14) _
        refine tt_k 4 (S' := (162, [some (.inr (.inl 1000004)), some (.inr (.inl 0)), some (.inr (.inl 30)), some (.inr (.inl 47)), some (.inl i), some (.inl r16), o6], [.inl (i + 2), .inr (.inl 1000004), .inl ((xs ((i + 1)).toNat)), .inr (.inl 30)], n10, D11, s12, p13, c14)) rfl ?_
        refine tt_stat (j := 4) (i := (i + 2)) rfl hs (by omega) ?_
        show tt Zi 12 0 (163, [some (.inr (.inl 1000004)), some (.inr (.inl 0)), some (.inr (.inl 30)), some (.inr (.inl 47)), some (.inl i), some (.inl r16), o6], [.inl ((xs ((i + 2)).toNat)), .inl ((xs ((i + 1)).toNat)), .inr (.inl 30)], n10, D11, s12, p13, c14) _
        refine tt_k 4 (S' := (168, [some (.inr (.inl 1000004)), some (.inr (.inl 0)), some (.inr (.inl 30)), some (.inr (.inl 47)), some (.inl i), some (.inl r16), o6], [.inl (i + 3), .inr (.inl 1000004), .inl ((xs ((i + 2)).toNat)), .inl ((xs ((i + 1)).toNat)), .inr (.inl 30)], n10, D11, s12, p13, c14)) rfl ?_
        refine tt_stat (j := 4) (i := (i + 3)) rfl hs (by omega) ?_
        show tt Zi 12 0 (169, [some (.inr (.inl 1000004)), some (.inr (.inl 0)), some (.inr (.inl 30)), some (.inr (.inl 47)), some (.inl i), some (.inl r16), o6], [.inl ((xs ((i + 3)).toNat)), .inl ((xs ((i + 2)).toNat)), .inl ((xs ((i + 1)).toNat)), .inr (.inl 30)], n10, D11, s12, p13, c14) _
        refine tt_k 4 (S' := (174, [some (.inr (.inl 1000004)), some (.inr (.inl 0)), some (.inr (.inl 30)), some (.inr (.inl 47)), some (.inl i), some (.inl r16), o6], [.inl (i + 4), .inr (.inl 1000004), .inl ((xs ((i + 3)).toNat)), .inl ((xs ((i + 2)).toNat)), .inl ((xs ((i + 1)).toNat)), .inr (.inl 30)], n10, D11, s12, p13, c14)) rfl ?_
        refine tt_stat (j := 4) (i := (i + 4)) rfl hs (by omega) ?_
        show tt Zi 12 0 (175, [some (.inr (.inl 1000004)), some (.inr (.inl 0)), some (.inr (.inl 30)), some (.inr (.inl 47)), some (.inl i), some (.inl r16), o6], [.inl ((xs ((i + 4)).toNat)), .inl ((xs ((i + 3)).toNat)), .inl ((xs ((i + 2)).toNat)), .inl ((xs ((i + 1)).toNat)), .inr (.inl 30)], n10, D11, s12, p13, c14) _
        refine tt_cl (by omega) rfl (k_canvas (Zi := Zi) (D := D11) (s := s12) (p := p13) (c := c14) (by omega) hS12 hC14 ((xs ((i + 1)).toNat)) ((xs ((i + 2)).toNat)) ((xs ((i + 3)).toNat)) ((xs ((i + 4)).toNat)) (by omega) (by omega) (by omega) (by omega)) ?_
        rintro _ _ ⟨s19, c20, rfl, rfl, hS19, hC20, f21, g22, k23⟩
        have hW24 := wp_fr f21 (by decide) hW13
        show tt Zi 12 0 (178, [some (.inr (.inl 1000004)), some (.inr (.inl 0)), some (.inr (.inl 30)), some (.inr (.inl 47)), some (.inl i), some (.inl r16), o6], [], n10, D11, s19, p13, c20) _
        refine tt_k 1 (S' := (179, [some (.inr (.inl 1000004)), some (.inr (.inl 0)), some (.inr (.inl 30)), some (.inr (.inl 47)), some (.inl i), some (.inl r16), o6], [.inr (.inl 30)], n10, D11, s19, p13, c20)) rfl ?_
        refine tt_cl (by omega) rfl (k_thrown (Zi := Zi) (D := D11) (s := s19) (p := p13) (c := c20) (by omega) hS19 hC20 ) ?_
        rintro _ _ ⟨r25, rfl, rfl, b26, k27⟩
        show tt Zi 12 0 (182, [some (.inr (.inl 1000004)), some (.inr (.inl 0)), some (.inr (.inl 30)), some (.inr (.inl 47)), some (.inl i), some (.inl r16), o6], [.inl r25], n10, D11, s19, p13, c20) _
        refine tt_k 1 (S' := (184, [some (.inr (.inl 1000004)), some (.inr (.inl 0)), some (.inr (.inl 30)), some (.inr (.inl 47)), some (.inl i), some (.inl r16), o6], [.inl r16, .inl r25], n10, D11, s19, p13, c20)) rfl ?_
        refine tb_eq (x := r25) (y := r16) rfl rfl (by omega) (fun h28 => ?_) (fun h28 => ?_)
        · show tt Zi 12 0 (189, [some (.inr (.inl 1000004)), some (.inr (.inl 0)), some (.inr (.inl 30)), some (.inr (.inl 47)), some (.inl i), some (.inl r16), o6], [], n10, D11, s19, p13, c20) _
          refine tt_k 3 (S' := (23, [some (.inr (.inl 1000004)), some (.inr (.inl 0)), some (.inr (.inl 30)), some (.inr (.inl 47)), some (.inl (i + 9)), some (.inl r16), o6], [], n10, D11, s19, p13, c20)) rfl ?_
          exact ih (q + 1) (i + 9) (some (.inl r16)) (o6) (n10, D11, s19, p13, c20) ⟨hS19, hC20, hW24⟩ (by omega) (by omega) (by omega) (by omega)
        · show tt Zi 12 0 (187, [some (.inr (.inl 1000004)), some (.inr (.inl 0)), some (.inr (.inl 30)), some (.inr (.inl 47)), some (.inl i), some (.inl r16), o6], [], n10, D11, s19, p13, c20) _
          refine tt_k 1 (S' := (188, [some (.inr (.inl 1000004)), some (.inr (.inl 0)), some (.inr (.inl 30)), some (.inr (.inl 47)), some (.inl i), some (.inl r16), o6], [.inl 0], n10, D11, s19, p13, c20)) rfl ?_
          exfalso
          by_cases hc : ((1 ≤ (xs ((i + 1)).toNat) ∧ (xs ((i + 1)).toNat) ≤ 64)) ∧ ((1 ≤ (xs ((i + 2)).toNat) ∧ (xs ((i + 2)).toNat) ≤ 64)) ∧ (((xs ((i + 3)).toNat) = 1 ∨ (xs ((i + 3)).toNat) = 3)) ∧ ((2 ≤ (xs ((i + 4)).toNat) ∧ (xs ((i + 4)).toNat) ≤ 16))
          · rw [if_pos hc] at k23; omega
          · rw [if_neg hc] at k23; omega
      by_cases h29 : (mi_and (xs (i).toNat) 15) = 1
      · have h30 := h29
        refine tt_tsw (x := (mi_and (xs (i).toNat) 15)) (off := 152) rfl (by omega) (by omega) (by rw [h29]; rfl) rfl ?_
        show tt Zi 12 0 (192, [some (.inr (.inl 1000004)), some (.inr (.inl 0)), some (.inr (.inl 30)), some (.inr (.inl 47)), some (.inl i), o5, o6], [], n, D, s, p, c) _
        refine tt_k 5 (S' := (198, [some (.inr (.inl 1000004)), some (.inr (.inl 0)), some (.inr (.inl 30)), some (.inr (.inl 47)), some (.inl i), o5, o6], [.inl (i + 1), .inr (.inl 1000004), .inr (.inl 0)], n, D, s, p, c)) rfl ?_
        refine tt_stat (j := 4) (i := (i + 1)) rfl hs (by omega) ?_
        show tt Zi 12 0 (199, [some (.inr (.inl 1000004)), some (.inr (.inl 0)), some (.inr (.inl 30)), some (.inr (.inl 47)), some (.inl i), o5, o6], [.inl ((xs ((i + 1)).toNat)), .inr (.inl 0)], n, D, s, p, c) _
        have b31 := hxs ((i + 1)).toNat
        refine tt_k 4 (S' := (204, [some (.inr (.inl 1000004)), some (.inr (.inl 0)), some (.inr (.inl 30)), some (.inr (.inl 47)), some (.inl i), o5, o6], [.inl (i + 2), .inr (.inl 1000004), .inl ((xs ((i + 1)).toNat)), .inr (.inl 0)], n, D, s, p, c)) rfl ?_
        refine tt_stat (j := 4) (i := (i + 2)) rfl hs (by omega) ?_
        show tt Zi 12 0 (205, [some (.inr (.inl 1000004)), some (.inr (.inl 0)), some (.inr (.inl 30)), some (.inr (.inl 47)), some (.inl i), o5, o6], [.inl ((xs ((i + 2)).toNat)), .inl ((xs ((i + 1)).toNat)), .inr (.inl 0)], n, D, s, p, c) _
        have b32 := hxs ((i + 2)).toNat
        refine tt_k 4 (S' := (210, [some (.inr (.inl 1000004)), some (.inr (.inl 0)), some (.inr (.inl 30)), some (.inr (.inl 47)), some (.inl i), o5, o6], [.inl (i + 3), .inr (.inl 1000004), .inl ((xs ((i + 2)).toNat)), .inl ((xs ((i + 1)).toNat)), .inr (.inl 0)], n, D, s, p, c)) rfl ?_
        refine tt_stat (j := 4) (i := (i + 3)) rfl hs (by omega) ?_
        show tt Zi 12 0 (211, [some (.inr (.inl 1000004)), some (.inr (.inl 0)), some (.inr (.inl 30)), some (.inr (.inl 47)), some (.inl i), o5, o6], [.inl ((xs ((i + 3)).toNat)), .inl ((xs ((i + 2)).toNat)), .inl ((xs ((i + 1)).toNat)), .inr (.inl 0)], n, D, s, p, c) _
        have b33 := hxs ((i + 3)).toNat
        refine tt_k 4 (S' := (216, [some (.inr (.inl 1000004)), some (.inr (.inl 0)), some (.inr (.inl 30)), some (.inr (.inl 47)), some (.inl i), o5, o6], [.inl (i + 4), .inr (.inl 1000004), .inl ((xs ((i + 3)).toNat)), .inl ((xs ((i + 2)).toNat)), .inl ((xs ((i + 1)).toNat)), .inr (.inl 0)], n, D, s, p, c)) rfl ?_
        refine tt_stat (j := 4) (i := (i + 4)) rfl hs (by omega) ?_
        show tt Zi 12 0 (217, [some (.inr (.inl 1000004)), some (.inr (.inl 0)), some (.inr (.inl 30)), some (.inr (.inl 47)), some (.inl i), o5, o6], [.inl ((xs ((i + 4)).toNat)), .inl ((xs ((i + 3)).toNat)), .inl ((xs ((i + 2)).toNat)), .inl ((xs ((i + 1)).toNat)), .inr (.inl 0)], n, D, s, p, c) _
        have b34 := hxs ((i + 4)).toNat
        refine tt_k 4 (S' := (222, [some (.inr (.inl 1000004)), some (.inr (.inl 0)), some (.inr (.inl 30)), some (.inr (.inl 47)), some (.inl i), o5, o6], [.inl (i + 5), .inr (.inl 1000004), .inl ((xs ((i + 4)).toNat)), .inl ((xs ((i + 3)).toNat)), .inl ((xs ((i + 2)).toNat)), .inl ((xs ((i + 1)).toNat)), .inr (.inl 0)], n, D, s, p, c)) rfl ?_
        refine tt_stat (j := 4) (i := (i + 5)) rfl hs (by omega) ?_
        show tt Zi 12 0 (223, [some (.inr (.inl 1000004)), some (.inr (.inl 0)), some (.inr (.inl 30)), some (.inr (.inl 47)), some (.inl i), o5, o6], [.inl ((xs ((i + 5)).toNat)), .inl ((xs ((i + 4)).toNat)), .inl ((xs ((i + 3)).toNat)), .inl ((xs ((i + 2)).toNat)), .inl ((xs ((i + 1)).toNat)), .inr (.inl 0)], n, D, s, p, c) _
        have b35 := hxs ((i + 5)).toNat
        refine tt_k 4 (S' := (229, [some (.inr (.inl 1000004)), some (.inr (.inl 0)), some (.inr (.inl 30)), some (.inr (.inl 47)), some (.inl i), o5, o6], [.inl (i + 6), .inr (.inl 1000004), .inl ((xs ((i + 5)).toNat)), .inl ((xs ((i + 4)).toNat)), .inl ((xs ((i + 3)).toNat)), .inl ((xs ((i + 2)).toNat)), .inl ((xs ((i + 1)).toNat)), .inr (.inl 0)], n, D, s, p, c)) rfl ?_
        refine tt_stat (j := 4) (i := (i + 6)) rfl hs (by omega) ?_
        show tt Zi 12 0 (230, [some (.inr (.inl 1000004)), some (.inr (.inl 0)), some (.inr (.inl 30)), some (.inr (.inl 47)), some (.inl i), o5, o6], [.inl ((xs ((i + 6)).toNat)), .inl ((xs ((i + 5)).toNat)), .inl ((xs ((i + 4)).toNat)), .inl ((xs ((i + 3)).toNat)), .inl ((xs ((i + 2)).toNat)), .inl ((xs ((i + 1)).toNat)), .inr (.inl 0)], n, D, s, p, c) _
        have b36 := hxs ((i + 6)).toNat
        refine tt_k 4 (S' := (236, [some (.inr (.inl 1000004)), some (.inr (.inl 0)), some (.inr (.inl 30)), some (.inr (.inl 47)), some (.inl i), o5, o6], [.inl (i + 7), .inr (.inl 1000004), .inl ((xs ((i + 6)).toNat)), .inl ((xs ((i + 5)).toNat)), .inl ((xs ((i + 4)).toNat)), .inl ((xs ((i + 3)).toNat)), .inl ((xs ((i + 2)).toNat)), .inl ((xs ((i + 1)).toNat)), .inr (.inl 0)], n, D, s, p, c)) rfl ?_
        refine tt_stat (j := 4) (i := (i + 7)) rfl hs (by omega) ?_
        show tt Zi 12 0 (237, [some (.inr (.inl 1000004)), some (.inr (.inl 0)), some (.inr (.inl 30)), some (.inr (.inl 47)), some (.inl i), o5, o6], [.inl ((xs ((i + 7)).toNat)), .inl ((xs ((i + 6)).toNat)), .inl ((xs ((i + 5)).toNat)), .inl ((xs ((i + 4)).toNat)), .inl ((xs ((i + 3)).toNat)), .inl ((xs ((i + 2)).toNat)), .inl ((xs ((i + 1)).toNat)), .inr (.inl 0)], n, D, s, p, c) _
        have b37 := hxs ((i + 7)).toNat
        refine tt_k 4 (S' := (243, [some (.inr (.inl 1000004)), some (.inr (.inl 0)), some (.inr (.inl 30)), some (.inr (.inl 47)), some (.inl i), o5, o6], [.inl (i + 8), .inr (.inl 1000004), .inl ((xs ((i + 7)).toNat)), .inl ((xs ((i + 6)).toNat)), .inl ((xs ((i + 5)).toNat)), .inl ((xs ((i + 4)).toNat)), .inl ((xs ((i + 3)).toNat)), .inl ((xs ((i + 2)).toNat)), .inl ((xs ((i + 1)).toNat)), .inr (.inl 0)], n, D, s, p, c)) rfl ?_
        refine tt_stat (j := 4) (i := (i + 8)) rfl hs (by omega) ?_
        show tt Zi 12 0 (244, [some (.inr (.inl 1000004)), some (.inr (.inl 0)), some (.inr (.inl 30)), some (.inr (.inl 47)), some (.inl i), o5, o6], [.inl ((xs ((i + 8)).toNat)), .inl ((xs ((i + 7)).toNat)), .inl ((xs ((i + 6)).toNat)), .inl ((xs ((i + 5)).toNat)), .inl ((xs ((i + 4)).toNat)), .inl ((xs ((i + 3)).toNat)), .inl ((xs ((i + 2)).toNat)), .inl ((xs ((i + 1)).toNat)), .inr (.inl 0)], n, D, s, p, c) _
        have b38 := hxs ((i + 8)).toNat
        refine tt_cl (by omega) rfl (h_draw (Zi := Zi) (q := q) (n := n) (D := D) (s := s) (p := p) (c := c) (by omega) hz (by omega) hS hC hW ((xs ((i + 1)).toNat)) ((xs ((i + 2)).toNat)) ((xs ((i + 3)).toNat)) ((xs ((i + 4)).toNat)) ((xs ((i + 5)).toNat)) ((xs ((i + 6)).toNat)) ((xs ((i + 7)).toNat)) ((xs ((i + 8)).toNat)) (by omega) (by omega) (by omega) (by omega) (by omega) (by omega) (by omega) (by omega)) ?_
        rintro _ ⟨n39, D40, s41, p42, c43⟩ ⟨r45, rfl, b46, hY44⟩
        have hS41 : bS s41 := hY44.1
        have hC43 : bC D40 c43 := hY44.2.1
        have hW42 : wp _ n39 D40 p42 s41 := hY44.2.2
        show tt Zi 12 0 (247, [some (.inr (.inl 1000004)), some (.inr (.inl 0)), some (.inr (.inl 30)), some (.inr (.inl 47)), some (.inl i), o5, o6], [.inl r45], n39, D40, s41, p42, c43) _
        refine tt_k 6 (S' := (255, [some (.inr (.inl 1000004)), some (.inr (.inl 0)), some (.inr (.inl 30)), some (.inr (.inl 47)), some (.inl i), some (.inl r45), o6], [.inl (i + 1), .inr (.inl 1000004), .inr (.inl 30)], n39, D40, s41, p42, c43)) rfl ?_
        refine tt_stat (j := 4) (i := (i + 1)) rfl hs (by omega) ?_
        show tt Zi 12 0 (256, [some (.inr (.inl 1000004)), some (.inr (.inl 0)), some (.inr (.inl 30)), some (.inr (.inl 47)), some (.inl i), some (.inl r45), o6], [.inl ((xs ((i + 1)).toNat)), .inr (.inl 30)], n39, D40, s41, p42, c43) _
        refine tt_k 4 (S' := (261, [some (.inr (.inl 1000004)), some (.inr (.inl 0)), some (.inr (.inl 30)), some (.inr (.inl 47)), some (.inl i), some (.inl r45), o6], [.inl (i + 2), .inr (.inl 1000004), .inl ((xs ((i + 1)).toNat)), .inr (.inl 30)], n39, D40, s41, p42, c43)) rfl ?_
        refine tt_stat (j := 4) (i := (i + 2)) rfl hs (by omega) ?_
        show tt Zi 12 0 (262, [some (.inr (.inl 1000004)), some (.inr (.inl 0)), some (.inr (.inl 30)), some (.inr (.inl 47)), some (.inl i), some (.inl r45), o6], [.inl ((xs ((i + 2)).toNat)), .inl ((xs ((i + 1)).toNat)), .inr (.inl 30)], n39, D40, s41, p42, c43) _
        refine tt_k 4 (S' := (267, [some (.inr (.inl 1000004)), some (.inr (.inl 0)), some (.inr (.inl 30)), some (.inr (.inl 47)), some (.inl i), some (.inl r45), o6], [.inl (i + 3), .inr (.inl 1000004), .inl ((xs ((i + 2)).toNat)), .inl ((xs ((i + 1)).toNat)), .inr (.inl 30)], n39, D40, s41, p42, c43)) rfl ?_
        refine tt_stat (j := 4) (i := (i + 3)) rfl hs (by omega) ?_
        show tt Zi 12 0 (268, [some (.inr (.inl 1000004)), some (.inr (.inl 0)), some (.inr (.inl 30)), some (.inr (.inl 47)), some (.inl i), some (.inl r45), o6], [.inl ((xs ((i + 3)).toNat)), .inl ((xs ((i + 2)).toNat)), .inl ((xs ((i + 1)).toNat)), .inr (.inl 30)], n39, D40, s41, p42, c43) _
        refine tt_k 4 (S' := (273, [some (.inr (.inl 1000004)), some (.inr (.inl 0)), some (.inr (.inl 30)), some (.inr (.inl 47)), some (.inl i), some (.inl r45), o6], [.inl (i + 4), .inr (.inl 1000004), .inl ((xs ((i + 3)).toNat)), .inl ((xs ((i + 2)).toNat)), .inl ((xs ((i + 1)).toNat)), .inr (.inl 30)], n39, D40, s41, p42, c43)) rfl ?_
        refine tt_stat (j := 4) (i := (i + 4)) rfl hs (by omega) ?_
        show tt Zi 12 0 (274, [some (.inr (.inl 1000004)), some (.inr (.inl 0)), some (.inr (.inl 30)), some (.inr (.inl 47)), some (.inl i), some (.inl r45), o6], [.inl ((xs ((i + 4)).toNat)), .inl ((xs ((i + 3)).toNat)), .inl ((xs ((i + 2)).toNat)), .inl ((xs ((i + 1)).toNat)), .inr (.inl 30)], n39, D40, s41, p42, c43) _
        refine tt_k 4 (S' := (279, [some (.inr (.inl 1000004)), some (.inr (.inl 0)), some (.inr (.inl 30)), some (.inr (.inl 47)), some (.inl i), some (.inl r45), o6], [.inl (i + 5), .inr (.inl 1000004), .inl ((xs ((i + 4)).toNat)), .inl ((xs ((i + 3)).toNat)), .inl ((xs ((i + 2)).toNat)), .inl ((xs ((i + 1)).toNat)), .inr (.inl 30)], n39, D40, s41, p42, c43)) rfl ?_
        refine tt_stat (j := 4) (i := (i + 5)) rfl hs (by omega) ?_
        show tt Zi 12 0 (280, [some (.inr (.inl 1000004)), some (.inr (.inl 0)), some (.inr (.inl 30)), some (.inr (.inl 47)), some (.inl i), some (.inl r45), o6], [.inl ((xs ((i + 5)).toNat)), .inl ((xs ((i + 4)).toNat)), .inl ((xs ((i + 3)).toNat)), .inl ((xs ((i + 2)).toNat)), .inl ((xs ((i + 1)).toNat)), .inr (.inl 30)], n39, D40, s41, p42, c43) _
        refine tt_k 4 (S' := (286, [some (.inr (.inl 1000004)), some (.inr (.inl 0)), some (.inr (.inl 30)), some (.inr (.inl 47)), some (.inl i), some (.inl r45), o6], [.inl (i + 6), .inr (.inl 1000004), .inl ((xs ((i + 5)).toNat)), .inl ((xs ((i + 4)).toNat)), .inl ((xs ((i + 3)).toNat)), .inl ((xs ((i + 2)).toNat)), .inl ((xs ((i + 1)).toNat)), .inr (.inl 30)], n39, D40, s41, p42, c43)) rfl ?_
        refine tt_stat (j := 4) (i := (i + 6)) rfl hs (by omega) ?_
        show tt Zi 12 0 (287, [some (.inr (.inl 1000004)), some (.inr (.inl 0)), some (.inr (.inl 30)), some (.inr (.inl 47)), some (.inl i), some (.inl r45), o6], [.inl ((xs ((i + 6)).toNat)), .inl ((xs ((i + 5)).toNat)), .inl ((xs ((i + 4)).toNat)), .inl ((xs ((i + 3)).toNat)), .inl ((xs ((i + 2)).toNat)), .inl ((xs ((i + 1)).toNat)), .inr (.inl 30)], n39, D40, s41, p42, c43) _
        refine tt_k 4 (S' := (293, [some (.inr (.inl 1000004)), some (.inr (.inl 0)), some (.inr (.inl 30)), some (.inr (.inl 47)), some (.inl i), some (.inl r45), o6], [.inl (i + 7), .inr (.inl 1000004), .inl ((xs ((i + 6)).toNat)), .inl ((xs ((i + 5)).toNat)), .inl ((xs ((i + 4)).toNat)), .inl ((xs ((i + 3)).toNat)), .inl ((xs ((i + 2)).toNat)), .inl ((xs ((i + 1)).toNat)), .inr (.inl 30)], n39, D40, s41, p42, c43)) rfl ?_
        refine tt_stat (j := 4) (i := (i + 7)) rfl hs (by omega) ?_
        show tt Zi 12 0 (294, [some (.inr (.inl 1000004)), some (.inr (.inl 0)), some (.inr (.inl 30)), some (.inr (.inl 47)), some (.inl i), some (.inl r45), o6], [.inl ((xs ((i + 7)).toNat)), .inl ((xs ((i + 6)).toNat)), .inl ((xs ((i + 5)).toNat)), .inl ((xs ((i + 4)).toNat)), .inl ((xs ((i + 3)).toNat)), .inl ((xs ((i + 2)).toNat)), .inl ((xs ((i + 1)).toNat)), .inr (.inl 30)], n39, D40, s41, p42, c43) _
        refine tt_k 4 (S' := (300, [some (.inr (.inl 1000004)), some (.inr (.inl 0)), some (.inr (.inl 30)), some (.inr (.inl 47)), some (.inl i), some (.inl r45), o6], [.inl (i + 8), .inr (.inl 1000004), .inl ((xs ((i + 7)).toNat)), .inl ((xs ((i + 6)).toNat)), .inl ((xs ((i + 5)).toNat)), .inl ((xs ((i + 4)).toNat)), .inl ((xs ((i + 3)).toNat)), .inl ((xs ((i + 2)).toNat)), .inl ((xs ((i + 1)).toNat)), .inr (.inl 30)], n39, D40, s41, p42, c43)) rfl ?_
        refine tt_stat (j := 4) (i := (i + 8)) rfl hs (by omega) ?_
        show tt Zi 12 0 (301, [some (.inr (.inl 1000004)), some (.inr (.inl 0)), some (.inr (.inl 30)), some (.inr (.inl 47)), some (.inl i), some (.inl r45), o6], [.inl ((xs ((i + 8)).toNat)), .inl ((xs ((i + 7)).toNat)), .inl ((xs ((i + 6)).toNat)), .inl ((xs ((i + 5)).toNat)), .inl ((xs ((i + 4)).toNat)), .inl ((xs ((i + 3)).toNat)), .inl ((xs ((i + 2)).toNat)), .inl ((xs ((i + 1)).toNat)), .inr (.inl 30)], n39, D40, s41, p42, c43) _
        refine tt_cl (by omega) rfl (k_draw (Zi := Zi) (D := D40) (s := s41) (p := p42) (c := c43) (by omega) hS41 hC43 ((xs ((i + 1)).toNat)) ((xs ((i + 2)).toNat)) ((xs ((i + 3)).toNat)) ((xs ((i + 4)).toNat)) ((xs ((i + 5)).toNat)) ((xs ((i + 6)).toNat)) ((xs ((i + 7)).toNat)) ((xs ((i + 8)).toNat)) (by omega) (by omega) (by omega) (by omega) (by omega) (by omega) (by omega) (by omega)) ?_
        rintro _ _ ⟨s47, c48, rfl, rfl, hS47, hC48, f49, g50, k51⟩
        have hW52 := wp_fr f49 (by decide) hW42
        show tt Zi 12 0 (304, [some (.inr (.inl 1000004)), some (.inr (.inl 0)), some (.inr (.inl 30)), some (.inr (.inl 47)), some (.inl i), some (.inl r45), o6], [], n39, D40, s47, p42, c48) _
        refine tt_k 3 (S' := (23, [some (.inr (.inl 1000004)), some (.inr (.inl 0)), some (.inr (.inl 30)), some (.inr (.inl 47)), some (.inl (i + 9)), some (.inl r45), o6], [], n39, D40, s47, p42, c48)) rfl ?_
        exact ih (q + 1) (i + 9) (some (.inl r45)) (o6) (n39, D40, s47, p42, c48) ⟨hS47, hC48, hW52⟩ (by omega) (by omega) (by omega) (by omega)
      by_cases h53 : (mi_and (xs (i).toNat) 15) = 2
      · have h54 := h53
        refine tt_tsw (x := (mi_and (xs (i).toNat) 15)) (off := 267) rfl (by omega) (by omega) (by rw [h53]; rfl) rfl ?_
        show tt Zi 12 0 (307, [some (.inr (.inl 1000004)), some (.inr (.inl 0)), some (.inr (.inl 30)), some (.inr (.inl 47)), some (.inl i), o5, o6], [], n, D, s, p, c) _
        refine tt_k 5 (S' := (313, [some (.inr (.inl 1000004)), some (.inr (.inl 0)), some (.inr (.inl 30)), some (.inr (.inl 47)), some (.inl i), o5, o6], [.inl (i + 1), .inr (.inl 1000004), .inr (.inl 0)], n, D, s, p, c)) rfl ?_
        refine tt_stat (j := 4) (i := (i + 1)) rfl hs (by omega) ?_
        show tt Zi 12 0 (314, [some (.inr (.inl 1000004)), some (.inr (.inl 0)), some (.inr (.inl 30)), some (.inr (.inl 47)), some (.inl i), o5, o6], [.inl ((xs ((i + 1)).toNat)), .inr (.inl 0)], n, D, s, p, c) _
        have b55 := hxs ((i + 1)).toNat
        refine tt_k 4 (S' := (319, [some (.inr (.inl 1000004)), some (.inr (.inl 0)), some (.inr (.inl 30)), some (.inr (.inl 47)), some (.inl i), o5, o6], [.inl (i + 2), .inr (.inl 1000004), .inl ((xs ((i + 1)).toNat)), .inr (.inl 0)], n, D, s, p, c)) rfl ?_
        refine tt_stat (j := 4) (i := (i + 2)) rfl hs (by omega) ?_
        show tt Zi 12 0 (320, [some (.inr (.inl 1000004)), some (.inr (.inl 0)), some (.inr (.inl 30)), some (.inr (.inl 47)), some (.inl i), o5, o6], [.inl ((xs ((i + 2)).toNat)), .inl ((xs ((i + 1)).toNat)), .inr (.inl 0)], n, D, s, p, c) _
        have b56 := hxs ((i + 2)).toNat
        refine tt_k 4 (S' := (325, [some (.inr (.inl 1000004)), some (.inr (.inl 0)), some (.inr (.inl 30)), some (.inr (.inl 47)), some (.inl i), o5, o6], [.inl (i + 3), .inr (.inl 1000004), .inl ((xs ((i + 2)).toNat)), .inl ((xs ((i + 1)).toNat)), .inr (.inl 0)], n, D, s, p, c)) rfl ?_
        refine tt_stat (j := 4) (i := (i + 3)) rfl hs (by omega) ?_
        show tt Zi 12 0 (326, [some (.inr (.inl 1000004)), some (.inr (.inl 0)), some (.inr (.inl 30)), some (.inr (.inl 47)), some (.inl i), o5, o6], [.inl ((xs ((i + 3)).toNat)), .inl ((xs ((i + 2)).toNat)), .inl ((xs ((i + 1)).toNat)), .inr (.inl 0)], n, D, s, p, c) _
        have b57 := hxs ((i + 3)).toNat
        refine tt_k 1 (S' := (327, [some (.inr (.inl 1000004)), some (.inr (.inl 0)), some (.inr (.inl 30)), some (.inr (.inl 47)), some (.inl i), o5, o6], [.inr (.inl 47), .inl ((xs ((i + 3)).toNat)), .inl ((xs ((i + 2)).toNat)), .inl ((xs ((i + 1)).toNat)), .inr (.inl 0)], n, D, s, p, c)) rfl ?_
        refine tt_cl (by omega) rfl (h_at (Zi := Zi) (q := q) (n := n) (D := D) (s := s) (p := p) (c := c) (by omega) hz (by omega) hS hC hW ((xs ((i + 1)).toNat)) ((xs ((i + 2)).toNat)) ((xs ((i + 3)).toNat)) (by omega) (by omega) (by omega)) ?_
        rintro _ ⟨n58, D59, s60, p61, c62⟩ ⟨r64, rfl, b65, hY63⟩
        have hS60 : bS s60 := hY63.1
        have hC62 : bC D59 c62 := hY63.2.1
        have hW61 : wp _ n58 D59 p61 s60 := hY63.2.2
        show tt Zi 12 0 (330, [some (.inr (.inl 1000004)), some (.inr (.inl 0)), some (.inr (.inl 30)), some (.inr (.inl 47)), some (.inl i), o5, o6], [.inl r64], n58, D59, s60, p61, c62) _
        refine tt_k 6 (S' := (338, [some (.inr (.inl 1000004)), some (.inr (.inl 0)), some (.inr (.inl 30)), some (.inr (.inl 47)), some (.inl i), some (.inl r64), o6], [.inl (i + 1), .inr (.inl 1000004), .inr (.inl 30)], n58, D59, s60, p61, c62)) rfl ?_
        refine tt_stat (j := 4) (i := (i + 1)) rfl hs (by omega) ?_
        show tt Zi 12 0 (339, [some (.inr (.inl 1000004)), some (.inr (.inl 0)), some (.inr (.inl 30)), some (.inr (.inl 47)), some (.inl i), some (.inl r64), o6], [.inl ((xs ((i + 1)).toNat)), .inr (.inl 30)], n58, D59, s60, p61, c62) _
        refine tt_k 4 (S' := (344, [some (.inr (.inl 1000004)), some (.inr (.inl 0)), some (.inr (.inl 30)), some (.inr (.inl 47)), some (.inl i), some (.inl r64), o6], [.inl (i + 2), .inr (.inl 1000004), .inl ((xs ((i + 1)).toNat)), .inr (.inl 30)], n58, D59, s60, p61, c62)) rfl ?_
        refine tt_stat (j := 4) (i := (i + 2)) rfl hs (by omega) ?_
        show tt Zi 12 0 (345, [some (.inr (.inl 1000004)), some (.inr (.inl 0)), some (.inr (.inl 30)), some (.inr (.inl 47)), some (.inl i), some (.inl r64), o6], [.inl ((xs ((i + 2)).toNat)), .inl ((xs ((i + 1)).toNat)), .inr (.inl 30)], n58, D59, s60, p61, c62) _
        refine tt_k 4 (S' := (350, [some (.inr (.inl 1000004)), some (.inr (.inl 0)), some (.inr (.inl 30)), some (.inr (.inl 47)), some (.inl i), some (.inl r64), o6], [.inl (i + 3), .inr (.inl 1000004), .inl ((xs ((i + 2)).toNat)), .inl ((xs ((i + 1)).toNat)), .inr (.inl 30)], n58, D59, s60, p61, c62)) rfl ?_
        refine tt_stat (j := 4) (i := (i + 3)) rfl hs (by omega) ?_
        show tt Zi 12 0 (351, [some (.inr (.inl 1000004)), some (.inr (.inl 0)), some (.inr (.inl 30)), some (.inr (.inl 47)), some (.inl i), some (.inl r64), o6], [.inl ((xs ((i + 3)).toNat)), .inl ((xs ((i + 2)).toNat)), .inl ((xs ((i + 1)).toNat)), .inr (.inl 30)], n58, D59, s60, p61, c62) _
        refine tt_cl (by omega) rfl (k_at (Zi := Zi) (D := D59) (s := s60) (p := p61) (c := c62) (by omega) hS60 hC62 ((xs ((i + 1)).toNat)) ((xs ((i + 2)).toNat)) ((xs ((i + 3)).toNat)) (by omega) (by omega) (by omega)) ?_
        rintro _ _ ⟨s66, r67, rfl, rfl, hS66, f68, b69, k70⟩
        have hW71 := wp_fr f68 (by decide) hW61
        show tt Zi 12 0 (354, [some (.inr (.inl 1000004)), some (.inr (.inl 0)), some (.inr (.inl 30)), some (.inr (.inl 47)), some (.inl i), some (.inl r64), o6], [.inl r67], n58, D59, s66, p61, c62) _
        refine tt_k 4 (S' := (23, [some (.inr (.inl 1000004)), some (.inr (.inl 0)), some (.inr (.inl 30)), some (.inr (.inl 47)), some (.inl (i + 9)), some (.inl r64), some (.inl r67)], [], n58, D59, s66, p61, c62)) rfl ?_
        exact ih (q + 1) (i + 9) (some (.inl r64)) (some (.inl r67)) (n58, D59, s66, p61, c62) ⟨hS66, hC62, hW71⟩ (by omega) (by omega) (by omega) (by omega)
      by_cases h72 : (mi_and (xs (i).toNat) 15) = 3
      · have h73 := h72
        refine tt_tsw (x := (mi_and (xs (i).toNat) 15)) (off := 319) rfl (by omega) (by omega) (by rw [h72]; rfl) rfl ?_
        show tt Zi 12 0 (359, [some (.inr (.inl 1000004)), some (.inr (.inl 0)), some (.inr (.inl 30)), some (.inr (.inl 47)), some (.inl i), o5, o6], [], n, D, s, p, c) _
        refine tt_k 5 (S' := (365, [some (.inr (.inl 1000004)), some (.inr (.inl 0)), some (.inr (.inl 30)), some (.inr (.inl 47)), some (.inl i), o5, o6], [.inl (i + 1), .inr (.inl 1000004), .inr (.inl 0)], n, D, s, p, c)) rfl ?_
        refine tt_stat (j := 4) (i := (i + 1)) rfl hs (by omega) ?_
        show tt Zi 12 0 (366, [some (.inr (.inl 1000004)), some (.inr (.inl 0)), some (.inr (.inl 30)), some (.inr (.inl 47)), some (.inl i), o5, o6], [.inl ((xs ((i + 1)).toNat)), .inr (.inl 0)], n, D, s, p, c) _
        have b74 := hxs ((i + 1)).toNat
        refine tt_k 4 (S' := (371, [some (.inr (.inl 1000004)), some (.inr (.inl 0)), some (.inr (.inl 30)), some (.inr (.inl 47)), some (.inl i), o5, o6], [.inl (i + 2), .inr (.inl 1000004), .inl ((xs ((i + 1)).toNat)), .inr (.inl 0)], n, D, s, p, c)) rfl ?_
        refine tt_stat (j := 4) (i := (i + 2)) rfl hs (by omega) ?_
        show tt Zi 12 0 (372, [some (.inr (.inl 1000004)), some (.inr (.inl 0)), some (.inr (.inl 30)), some (.inr (.inl 47)), some (.inl i), o5, o6], [.inl ((xs ((i + 2)).toNat)), .inl ((xs ((i + 1)).toNat)), .inr (.inl 0)], n, D, s, p, c) _
        have b75 := hxs ((i + 2)).toNat
        refine tt_k 4 (S' := (377, [some (.inr (.inl 1000004)), some (.inr (.inl 0)), some (.inr (.inl 30)), some (.inr (.inl 47)), some (.inl i), o5, o6], [.inl (i + 3), .inr (.inl 1000004), .inl ((xs ((i + 2)).toNat)), .inl ((xs ((i + 1)).toNat)), .inr (.inl 0)], n, D, s, p, c)) rfl ?_
        refine tt_stat (j := 4) (i := (i + 3)) rfl hs (by omega) ?_
        show tt Zi 12 0 (378, [some (.inr (.inl 1000004)), some (.inr (.inl 0)), some (.inr (.inl 30)), some (.inr (.inl 47)), some (.inl i), o5, o6], [.inl ((xs ((i + 3)).toNat)), .inl ((xs ((i + 2)).toNat)), .inl ((xs ((i + 1)).toNat)), .inr (.inl 0)], n, D, s, p, c) _
        have b76 := hxs ((i + 3)).toNat
        refine tt_k 4 (S' := (383, [some (.inr (.inl 1000004)), some (.inr (.inl 0)), some (.inr (.inl 30)), some (.inr (.inl 47)), some (.inl i), o5, o6], [.inl (i + 4), .inr (.inl 1000004), .inl ((xs ((i + 3)).toNat)), .inl ((xs ((i + 2)).toNat)), .inl ((xs ((i + 1)).toNat)), .inr (.inl 0)], n, D, s, p, c)) rfl ?_
        refine tt_stat (j := 4) (i := (i + 4)) rfl hs (by omega) ?_
        show tt Zi 12 0 (384, [some (.inr (.inl 1000004)), some (.inr (.inl 0)), some (.inr (.inl 30)), some (.inr (.inl 47)), some (.inl i), o5, o6], [.inl ((xs ((i + 4)).toNat)), .inl ((xs ((i + 3)).toNat)), .inl ((xs ((i + 2)).toNat)), .inl ((xs ((i + 1)).toNat)), .inr (.inl 0)], n, D, s, p, c) _
        have b77 := hxs ((i + 4)).toNat
        refine tt_k 4 (S' := (389, [some (.inr (.inl 1000004)), some (.inr (.inl 0)), some (.inr (.inl 30)), some (.inr (.inl 47)), some (.inl i), o5, o6], [.inl (i + 5), .inr (.inl 1000004), .inl ((xs ((i + 4)).toNat)), .inl ((xs ((i + 3)).toNat)), .inl ((xs ((i + 2)).toNat)), .inl ((xs ((i + 1)).toNat)), .inr (.inl 0)], n, D, s, p, c)) rfl ?_
        refine tt_stat (j := 4) (i := (i + 5)) rfl hs (by omega) ?_
        show tt Zi 12 0 (390, [some (.inr (.inl 1000004)), some (.inr (.inl 0)), some (.inr (.inl 30)), some (.inr (.inl 47)), some (.inl i), o5, o6], [.inl ((xs ((i + 5)).toNat)), .inl ((xs ((i + 4)).toNat)), .inl ((xs ((i + 3)).toNat)), .inl ((xs ((i + 2)).toNat)), .inl ((xs ((i + 1)).toNat)), .inr (.inl 0)], n, D, s, p, c) _
        have b78 := hxs ((i + 5)).toNat
        refine tt_cl (by omega) rfl (h_measures (Zi := Zi) (q := q) (n := n) (D := D) (s := s) (p := p) (c := c) (by omega) hz (by omega) hS hC hW ((xs ((i + 1)).toNat)) ((xs ((i + 2)).toNat)) ((xs ((i + 3)).toNat)) ((xs ((i + 4)).toNat)) ((xs ((i + 5)).toNat)) (by omega) (by omega) (by omega) (by omega) (by omega)) ?_
        rintro _ ⟨n79, D80, s81, p82, c83⟩ ⟨r85, rfl, b86, hY84⟩
        have hS81 : bS s81 := hY84.1
        have hC83 : bC D80 c83 := hY84.2.1
        have hW82 : wp _ n79 D80 p82 s81 := hY84.2.2
        show tt Zi 12 0 (393, [some (.inr (.inl 1000004)), some (.inr (.inl 0)), some (.inr (.inl 30)), some (.inr (.inl 47)), some (.inl i), o5, o6], [.inl r85], n79, D80, s81, p82, c83) _
        refine tt_k 6 (S' := (401, [some (.inr (.inl 1000004)), some (.inr (.inl 0)), some (.inr (.inl 30)), some (.inr (.inl 47)), some (.inl i), some (.inl r85), o6], [.inl (i + 1), .inr (.inl 1000004), .inr (.inl 30)], n79, D80, s81, p82, c83)) rfl ?_
        refine tt_stat (j := 4) (i := (i + 1)) rfl hs (by omega) ?_
        show tt Zi 12 0 (402, [some (.inr (.inl 1000004)), some (.inr (.inl 0)), some (.inr (.inl 30)), some (.inr (.inl 47)), some (.inl i), some (.inl r85), o6], [.inl ((xs ((i + 1)).toNat)), .inr (.inl 30)], n79, D80, s81, p82, c83) _
        refine tt_k 4 (S' := (407, [some (.inr (.inl 1000004)), some (.inr (.inl 0)), some (.inr (.inl 30)), some (.inr (.inl 47)), some (.inl i), some (.inl r85), o6], [.inl (i + 2), .inr (.inl 1000004), .inl ((xs ((i + 1)).toNat)), .inr (.inl 30)], n79, D80, s81, p82, c83)) rfl ?_
        refine tt_stat (j := 4) (i := (i + 2)) rfl hs (by omega) ?_
        show tt Zi 12 0 (408, [some (.inr (.inl 1000004)), some (.inr (.inl 0)), some (.inr (.inl 30)), some (.inr (.inl 47)), some (.inl i), some (.inl r85), o6], [.inl ((xs ((i + 2)).toNat)), .inl ((xs ((i + 1)).toNat)), .inr (.inl 30)], n79, D80, s81, p82, c83) _
        refine tt_k 4 (S' := (413, [some (.inr (.inl 1000004)), some (.inr (.inl 0)), some (.inr (.inl 30)), some (.inr (.inl 47)), some (.inl i), some (.inl r85), o6], [.inl (i + 3), .inr (.inl 1000004), .inl ((xs ((i + 2)).toNat)), .inl ((xs ((i + 1)).toNat)), .inr (.inl 30)], n79, D80, s81, p82, c83)) rfl ?_
        refine tt_stat (j := 4) (i := (i + 3)) rfl hs (by omega) ?_
        show tt Zi 12 0 (414, [some (.inr (.inl 1000004)), some (.inr (.inl 0)), some (.inr (.inl 30)), some (.inr (.inl 47)), some (.inl i), some (.inl r85), o6], [.inl ((xs ((i + 3)).toNat)), .inl ((xs ((i + 2)).toNat)), .inl ((xs ((i + 1)).toNat)), .inr (.inl 30)], n79, D80, s81, p82, c83) _
        refine tt_k 4 (S' := (419, [some (.inr (.inl 1000004)), some (.inr (.inl 0)), some (.inr (.inl 30)), some (.inr (.inl 47)), some (.inl i), some (.inl r85), o6], [.inl (i + 4), .inr (.inl 1000004), .inl ((xs ((i + 3)).toNat)), .inl ((xs ((i + 2)).toNat)), .inl ((xs ((i + 1)).toNat)), .inr (.inl 30)], n79, D80, s81, p82, c83)) rfl ?_
        refine tt_stat (j := 4) (i := (i + 4)) rfl hs (by omega) ?_
        show tt Zi 12 0 (420, [some (.inr (.inl 1000004)), some (.inr (.inl 0)), some (.inr (.inl 30)), some (.inr (.inl 47)), some (.inl i), some (.inl r85), o6], [.inl ((xs ((i + 4)).toNat)), .inl ((xs ((i + 3)).toNat)), .inl ((xs ((i + 2)).toNat)), .inl ((xs ((i + 1)).toNat)), .inr (.inl 30)], n79, D80, s81, p82, c83) _
        refine tt_k 4 (S' := (425, [some (.inr (.inl 1000004)), some (.inr (.inl 0)), some (.inr (.inl 30)), some (.inr (.inl 47)), some (.inl i), some (.inl r85), o6], [.inl (i + 5), .inr (.inl 1000004), .inl ((xs ((i + 4)).toNat)), .inl ((xs ((i + 3)).toNat)), .inl ((xs ((i + 2)).toNat)), .inl ((xs ((i + 1)).toNat)), .inr (.inl 30)], n79, D80, s81, p82, c83)) rfl ?_
        refine tt_stat (j := 4) (i := (i + 5)) rfl hs (by omega) ?_
        show tt Zi 12 0 (426, [some (.inr (.inl 1000004)), some (.inr (.inl 0)), some (.inr (.inl 30)), some (.inr (.inl 47)), some (.inl i), some (.inl r85), o6], [.inl ((xs ((i + 5)).toNat)), .inl ((xs ((i + 4)).toNat)), .inl ((xs ((i + 3)).toNat)), .inl ((xs ((i + 2)).toNat)), .inl ((xs ((i + 1)).toNat)), .inr (.inl 30)], n79, D80, s81, p82, c83) _
        refine tt_cl (by omega) rfl (k_measures (Zi := Zi) (D := D80) (s := s81) (p := p82) (c := c83) (by omega) hS81 hC83 ((xs ((i + 1)).toNat)) ((xs ((i + 2)).toNat)) ((xs ((i + 3)).toNat)) ((xs ((i + 4)).toNat)) ((xs ((i + 5)).toNat)) (by omega) (by omega) (by omega) (by omega) (by omega)) ?_
        rintro _ _ ⟨s87, c88, rfl, rfl, hS87, hC88, f89, g90⟩
        have hW91 := wp_fr f89 (by decide) hW82
        show tt Zi 12 0 (429, [some (.inr (.inl 1000004)), some (.inr (.inl 0)), some (.inr (.inl 30)), some (.inr (.inl 47)), some (.inl i), some (.inl r85), o6], [], n79, D80, s87, p82, c88) _
        refine tt_k 3 (S' := (23, [some (.inr (.inl 1000004)), some (.inr (.inl 0)), some (.inr (.inl 30)), some (.inr (.inl 47)), some (.inl (i + 9)), some (.inl r85), o6], [], n79, D80, s87, p82, c88)) rfl ?_
        exact ih (q + 1) (i + 9) (some (.inl r85)) (o6) (n79, D80, s87, p82, c88) ⟨hS87, hC88, hW91⟩ (by omega) (by omega) (by omega) (by omega)
      by_cases h92 : (mi_and (xs (i).toNat) 15) = 4
      · have h93 := h92
        refine tt_tsw (x := (mi_and (xs (i).toNat) 15)) (off := 392) rfl (by omega) (by omega) (by rw [h92]; rfl) rfl ?_
        show tt Zi 12 0 (432, [some (.inr (.inl 1000004)), some (.inr (.inl 0)), some (.inr (.inl 30)), some (.inr (.inl 47)), some (.inl i), o5, o6], [], n, D, s, p, c) _
        refine tt_k 5 (S' := (438, [some (.inr (.inl 1000004)), some (.inr (.inl 0)), some (.inr (.inl 30)), some (.inr (.inl 47)), some (.inl i), o5, o6], [.inl (i + 1), .inr (.inl 1000004), .inr (.inl 0)], n, D, s, p, c)) rfl ?_
        refine tt_stat (j := 4) (i := (i + 1)) rfl hs (by omega) ?_
        show tt Zi 12 0 (439, [some (.inr (.inl 1000004)), some (.inr (.inl 0)), some (.inr (.inl 30)), some (.inr (.inl 47)), some (.inl i), o5, o6], [.inl ((xs ((i + 1)).toNat)), .inr (.inl 0)], n, D, s, p, c) _
        have b94 := hxs ((i + 1)).toNat
        refine tt_k 1 (S' := (440, [some (.inr (.inl 1000004)), some (.inr (.inl 0)), some (.inr (.inl 30)), some (.inr (.inl 47)), some (.inl i), o5, o6], [.inr (.inl 47), .inl ((xs ((i + 1)).toNat)), .inr (.inl 0)], n, D, s, p, c)) rfl ?_
        refine tt_cl (by omega) rfl (h_pack (Zi := Zi) (q := q) (n := n) (D := D) (s := s) (p := p) (c := c) (by omega) hz (by omega) hS hC hW ((xs ((i + 1)).toNat)) (by omega)) ?_
        rintro _ ⟨n95, D96, s97, p98, c99⟩ ⟨r101, rfl, b102, hY100⟩
        have hS97 : bS s97 := hY100.1
        have hC99 : bC D96 c99 := hY100.2.1
        have hW98 : wp _ n95 D96 p98 s97 := hY100.2.2
        show tt Zi 12 0 (443, [some (.inr (.inl 1000004)), some (.inr (.inl 0)), some (.inr (.inl 30)), some (.inr (.inl 47)), some (.inl i), o5, o6], [.inl r101], n95, D96, s97, p98, c99) _
        refine tt_k 6 (S' := (451, [some (.inr (.inl 1000004)), some (.inr (.inl 0)), some (.inr (.inl 30)), some (.inr (.inl 47)), some (.inl i), some (.inl r101), o6], [.inl (i + 1), .inr (.inl 1000004), .inr (.inl 30)], n95, D96, s97, p98, c99)) rfl ?_
        refine tt_stat (j := 4) (i := (i + 1)) rfl hs (by omega) ?_
        show tt Zi 12 0 (452, [some (.inr (.inl 1000004)), some (.inr (.inl 0)), some (.inr (.inl 30)), some (.inr (.inl 47)), some (.inl i), some (.inl r101), o6], [.inl ((xs ((i + 1)).toNat)), .inr (.inl 30)], n95, D96, s97, p98, c99) _
        refine tt_cl (by omega) rfl (k_pack (Zi := Zi) (D := D96) (s := s97) (p := p98) (c := c99) (by omega) hS97 hC99 ((xs ((i + 1)).toNat)) (by omega)) ?_
        rintro _ _ ⟨s103, c104, r105, rfl, rfl, hS103, hC104, f106, g107, b108⟩
        have hW109 := wp_fr f106 (by decide) hW98
        show tt Zi 12 0 (455, [some (.inr (.inl 1000004)), some (.inr (.inl 0)), some (.inr (.inl 30)), some (.inr (.inl 47)), some (.inl i), some (.inl r101), o6], [.inl r105], n95, D96, s103, p98, c104) _
        refine tt_k 4 (S' := (23, [some (.inr (.inl 1000004)), some (.inr (.inl 0)), some (.inr (.inl 30)), some (.inr (.inl 47)), some (.inl (i + 9)), some (.inl r101), some (.inl r105)], [], n95, D96, s103, p98, c104)) rfl ?_
        exact ih (q + 1) (i + 9) (some (.inl r101)) (some (.inl r105)) (n95, D96, s103, p98, c104) ⟨hS103, hC104, hW109⟩ (by omega) (by omega) (by omega) (by omega)
      by_cases h110 : (mi_and (xs (i).toNat) 15) = 5
      · have h111 := h110
        refine tt_tsw (x := (mi_and (xs (i).toNat) 15)) (off := 420) rfl (by omega) (by omega) (by rw [h110]; rfl) rfl ?_
        show tt Zi 12 0 (460, [some (.inr (.inl 1000004)), some (.inr (.inl 0)), some (.inr (.inl 30)), some (.inr (.inl 47)), some (.inl i), o5, o6], [], n, D, s, p, c) _
        refine tt_k 1 (S' := (461, [some (.inr (.inl 1000004)), some (.inr (.inl 0)), some (.inr (.inl 30)), some (.inr (.inl 47)), some (.inl i), o5, o6], [.inr (.inl 0)], n, D, s, p, c)) rfl ?_
        refine tt_cl (by omega) rfl (g_size (Zi := Zi) (q := q) (n := n) (D := D) (s := s) (p := p) (c := c) (by omega) hz (by omega) hS hC hW ) ?_
        rintro _ ⟨n112, D113, s114, p115, c116⟩ ⟨r118, rfl, b119, hY117⟩
        have hS114 : bS s114 := hY117.1
        have hC116 : bC D113 c116 := hY117.2.1
        have hW115 : wp _ n112 D113 p115 s114 := hY117.2.2
        show tt Zi 12 0 (464, [some (.inr (.inl 1000004)), some (.inr (.inl 0)), some (.inr (.inl 30)), some (.inr (.inl 47)), some (.inl i), o5, o6], [.inl r118], n112, D113, s114, p115, c116) _
        refine tt_k 2 (S' := (466, [some (.inr (.inl 1000004)), some (.inr (.inl 0)), some (.inr (.inl 30)), some (.inr (.inl 47)), some (.inl i), o5, o6], [.inr (.inl 30)], n112, D113, s114, p115, c116)) rfl ?_
        refine tt_cl (by omega) rfl (k_size (Zi := Zi) (D := D113) (s := s114) (p := p115) (c := c116) (by omega) hS114 hC116 ) ?_
        rintro _ _ ⟨s120, r121, rfl, rfl, hS120, f122, b123, k124, k125⟩
        have hW126 := wp_fr f122 (by decide) hW115
        show tt Zi 12 0 (469, [some (.inr (.inl 1000004)), some (.inr (.inl 0)), some (.inr (.inl 30)), some (.inr (.inl 47)), some (.inl i), o5, o6], [.inl r121], n112, D113, s120, p115, c116) _
        refine tt_k 4 (S' := (23, [some (.inr (.inl 1000004)), some (.inr (.inl 0)), some (.inr (.inl 30)), some (.inr (.inl 47)), some (.inl (i + 9)), o5, o6], [], n112, D113, s120, p115, c116)) rfl ?_
        exact ih (q + 1) (i + 9) (o5) (o6) (n112, D113, s120, p115, c116) ⟨hS120, hC116, hW126⟩ (by omega) (by omega) (by omega) (by omega)
      by_cases h127 : (mi_and (xs (i).toNat) 15) = 6
      · have h128 := h127
        refine tt_tsw (x := (mi_and (xs (i).toNat) 15)) (off := 433) rfl (by omega) (by omega) (by rw [h127]; rfl) rfl ?_
        show tt Zi 12 0 (473, [some (.inr (.inl 1000004)), some (.inr (.inl 0)), some (.inr (.inl 30)), some (.inr (.inl 47)), some (.inl i), o5, o6], [], n, D, s, p, c) _
        refine tt_k 5 (S' := (479, [some (.inr (.inl 1000004)), some (.inr (.inl 0)), some (.inr (.inl 30)), some (.inr (.inl 47)), some (.inl i), o5, o6], [.inl (i + 1), .inr (.inl 1000004), .inr (.inl 0)], n, D, s, p, c)) rfl ?_
        refine tt_stat (j := 4) (i := (i + 1)) rfl hs (by omega) ?_
        show tt Zi 12 0 (480, [some (.inr (.inl 1000004)), some (.inr (.inl 0)), some (.inr (.inl 30)), some (.inr (.inl 47)), some (.inl i), o5, o6], [.inl ((xs ((i + 1)).toNat)), .inr (.inl 0)], n, D, s, p, c) _
        have b129 := hxs ((i + 1)).toNat
        refine tt_k 1 (S' := (481, [some (.inr (.inl 1000004)), some (.inr (.inl 0)), some (.inr (.inl 30)), some (.inr (.inl 47)), some (.inl i), o5, o6], [.inr (.inl 47), .inl ((xs ((i + 1)).toNat)), .inr (.inl 0)], n, D, s, p, c)) rfl ?_
        refine tt_cl (by omega) rfl (h_out (Zi := Zi) (q := q) (n := n) (D := D) (s := s) (p := p) (c := c) (by omega) hz (by omega) hS hC hW ((xs ((i + 1)).toNat)) (by omega)) ?_
        rintro _ ⟨n130, D131, s132, p133, c134⟩ ⟨r136, rfl, b137, hY135⟩
        have hS132 : bS s132 := hY135.1
        have hC134 : bC D131 c134 := hY135.2.1
        have hW133 : wp _ n130 D131 p133 s132 := hY135.2.2
        show tt Zi 12 0 (484, [some (.inr (.inl 1000004)), some (.inr (.inl 0)), some (.inr (.inl 30)), some (.inr (.inl 47)), some (.inl i), o5, o6], [.inl r136], n130, D131, s132, p133, c134) _
        refine tt_k 6 (S' := (492, [some (.inr (.inl 1000004)), some (.inr (.inl 0)), some (.inr (.inl 30)), some (.inr (.inl 47)), some (.inl i), some (.inl r136), o6], [.inl (i + 1), .inr (.inl 1000004), .inr (.inl 30)], n130, D131, s132, p133, c134)) rfl ?_
        refine tt_stat (j := 4) (i := (i + 1)) rfl hs (by omega) ?_
        show tt Zi 12 0 (493, [some (.inr (.inl 1000004)), some (.inr (.inl 0)), some (.inr (.inl 30)), some (.inr (.inl 47)), some (.inl i), some (.inl r136), o6], [.inl ((xs ((i + 1)).toNat)), .inr (.inl 30)], n130, D131, s132, p133, c134) _
        refine tt_cl (by omega) rfl (k_out (Zi := Zi) (D := D131) (s := s132) (p := p133) (c := c134) (by omega) hS132 hC134 ((xs ((i + 1)).toNat)) (by omega)) ?_
        rintro _ _ ⟨s138, r139, rfl, rfl, hS138, f140, b141, k142⟩
        have hW143 := wp_fr f140 (by decide) hW133
        show tt Zi 12 0 (496, [some (.inr (.inl 1000004)), some (.inr (.inl 0)), some (.inr (.inl 30)), some (.inr (.inl 47)), some (.inl i), some (.inl r136), o6], [.inl r139], n130, D131, s138, p133, c134) _
        refine tt_k 4 (S' := (23, [some (.inr (.inl 1000004)), some (.inr (.inl 0)), some (.inr (.inl 30)), some (.inr (.inl 47)), some (.inl (i + 9)), some (.inl r136), some (.inl r139)], [], n130, D131, s138, p133, c134)) rfl ?_
        exact ih (q + 1) (i + 9) (some (.inl r136)) (some (.inl r139)) (n130, D131, s138, p133, c134) ⟨hS138, hC134, hW143⟩ (by omega) (by omega) (by omega) (by omega)
      by_cases h144 : (mi_and (xs (i).toNat) 15) = 7
      · have h145 := h144
        refine tt_tsw (x := (mi_and (xs (i).toNat) 15)) (off := 461) rfl (by omega) (by omega) (by rw [h144]; rfl) rfl ?_
        show tt Zi 12 0 (501, [some (.inr (.inl 1000004)), some (.inr (.inl 0)), some (.inr (.inl 30)), some (.inr (.inl 47)), some (.inl i), o5, o6], [], n, D, s, p, c) _
        refine tt_k 5 (S' := (507, [some (.inr (.inl 1000004)), some (.inr (.inl 0)), some (.inr (.inl 30)), some (.inr (.inl 47)), some (.inl i), o5, o6], [.inl (i + 1), .inr (.inl 1000004), .inr (.inl 0)], n, D, s, p, c)) rfl ?_
        refine tt_stat (j := 4) (i := (i + 1)) rfl hs (by omega) ?_
        show tt Zi 12 0 (508, [some (.inr (.inl 1000004)), some (.inr (.inl 0)), some (.inr (.inl 30)), some (.inr (.inl 47)), some (.inl i), o5, o6], [.inl ((xs ((i + 1)).toNat)), .inr (.inl 0)], n, D, s, p, c) _
        have b146 := hxs ((i + 1)).toNat
        refine tt_k 4 (S' := (513, [some (.inr (.inl 1000004)), some (.inr (.inl 0)), some (.inr (.inl 30)), some (.inr (.inl 47)), some (.inl i), o5, o6], [.inl (i + 2), .inr (.inl 1000004), .inl ((xs ((i + 1)).toNat)), .inr (.inl 0)], n, D, s, p, c)) rfl ?_
        refine tt_stat (j := 4) (i := (i + 2)) rfl hs (by omega) ?_
        show tt Zi 12 0 (514, [some (.inr (.inl 1000004)), some (.inr (.inl 0)), some (.inr (.inl 30)), some (.inr (.inl 47)), some (.inl i), o5, o6], [.inl ((xs ((i + 2)).toNat)), .inl ((xs ((i + 1)).toNat)), .inr (.inl 0)], n, D, s, p, c) _
        have b147 := hxs ((i + 2)).toNat
        refine tt_k 4 (S' := (519, [some (.inr (.inl 1000004)), some (.inr (.inl 0)), some (.inr (.inl 30)), some (.inr (.inl 47)), some (.inl i), o5, o6], [.inl (i + 3), .inr (.inl 1000004), .inl ((xs ((i + 2)).toNat)), .inl ((xs ((i + 1)).toNat)), .inr (.inl 0)], n, D, s, p, c)) rfl ?_
        refine tt_stat (j := 4) (i := (i + 3)) rfl hs (by omega) ?_
        show tt Zi 12 0 (520, [some (.inr (.inl 1000004)), some (.inr (.inl 0)), some (.inr (.inl 30)), some (.inr (.inl 47)), some (.inl i), o5, o6], [.inl ((xs ((i + 3)).toNat)), .inl ((xs ((i + 2)).toNat)), .inl ((xs ((i + 1)).toNat)), .inr (.inl 0)], n, D, s, p, c) _
        have b148 := hxs ((i + 3)).toNat
        refine tt_k 4 (S' := (525, [some (.inr (.inl 1000004)), some (.inr (.inl 0)), some (.inr (.inl 30)), some (.inr (.inl 47)), some (.inl i), o5, o6], [.inl (i + 4), .inr (.inl 1000004), .inl ((xs ((i + 3)).toNat)), .inl ((xs ((i + 2)).toNat)), .inl ((xs ((i + 1)).toNat)), .inr (.inl 0)], n, D, s, p, c)) rfl ?_
        refine tt_stat (j := 4) (i := (i + 4)) rfl hs (by omega) ?_
        show tt Zi 12 0 (526, [some (.inr (.inl 1000004)), some (.inr (.inl 0)), some (.inr (.inl 30)), some (.inr (.inl 47)), some (.inl i), o5, o6], [.inl ((xs ((i + 4)).toNat)), .inl ((xs ((i + 3)).toNat)), .inl ((xs ((i + 2)).toNat)), .inl ((xs ((i + 1)).toNat)), .inr (.inl 0)], n, D, s, p, c) _
        have b149 := hxs ((i + 4)).toNat
        refine tt_k 4 (S' := (531, [some (.inr (.inl 1000004)), some (.inr (.inl 0)), some (.inr (.inl 30)), some (.inr (.inl 47)), some (.inl i), o5, o6], [.inl (i + 5), .inr (.inl 1000004), .inl ((xs ((i + 4)).toNat)), .inl ((xs ((i + 3)).toNat)), .inl ((xs ((i + 2)).toNat)), .inl ((xs ((i + 1)).toNat)), .inr (.inl 0)], n, D, s, p, c)) rfl ?_
        refine tt_stat (j := 4) (i := (i + 5)) rfl hs (by omega) ?_
        show tt Zi 12 0 (532, [some (.inr (.inl 1000004)), some (.inr (.inl 0)), some (.inr (.inl 30)), some (.inr (.inl 47)), some (.inl i), o5, o6], [.inl ((xs ((i + 5)).toNat)), .inl ((xs ((i + 4)).toNat)), .inl ((xs ((i + 3)).toNat)), .inl ((xs ((i + 2)).toNat)), .inl ((xs ((i + 1)).toNat)), .inr (.inl 0)], n, D, s, p, c) _
        have b150 := hxs ((i + 5)).toNat
        refine tt_k 1 (S' := (533, [some (.inr (.inl 1000004)), some (.inr (.inl 0)), some (.inr (.inl 30)), some (.inr (.inl 47)), some (.inl i), o5, o6], [.inr (.inl 47), .inl ((xs ((i + 5)).toNat)), .inl ((xs ((i + 4)).toNat)), .inl ((xs ((i + 3)).toNat)), .inl ((xs ((i + 2)).toNat)), .inl ((xs ((i + 1)).toNat)), .inr (.inl 0)], n, D, s, p, c)) rfl ?_
        refine tt_cl (by omega) rfl (h_feed (Zi := Zi) (q := q) (n := n) (D := D) (s := s) (p := p) (c := c) (by omega) hz (by omega) hS hC hW ((xs ((i + 1)).toNat)) ((xs ((i + 2)).toNat)) ((xs ((i + 3)).toNat)) ((xs ((i + 4)).toNat)) ((xs ((i + 5)).toNat)) (by omega) (by omega) (by omega) (by omega) (by omega)) ?_
        rintro _ ⟨n151, D152, s153, p154, c155⟩ ⟨r157, rfl, b158, hY156⟩
        have hS153 : bS s153 := hY156.1
        have hC155 : bC D152 c155 := hY156.2.1
        have hW154 : wp _ n151 D152 p154 s153 := hY156.2.2
        show tt Zi 12 0 (536, [some (.inr (.inl 1000004)), some (.inr (.inl 0)), some (.inr (.inl 30)), some (.inr (.inl 47)), some (.inl i), o5, o6], [.inl r157], n151, D152, s153, p154, c155) _
        refine tt_k 6 (S' := (544, [some (.inr (.inl 1000004)), some (.inr (.inl 0)), some (.inr (.inl 30)), some (.inr (.inl 47)), some (.inl i), some (.inl r157), o6], [.inl (i + 1), .inr (.inl 1000004), .inr (.inl 30)], n151, D152, s153, p154, c155)) rfl ?_
        refine tt_stat (j := 4) (i := (i + 1)) rfl hs (by omega) ?_
        show tt Zi 12 0 (545, [some (.inr (.inl 1000004)), some (.inr (.inl 0)), some (.inr (.inl 30)), some (.inr (.inl 47)), some (.inl i), some (.inl r157), o6], [.inl ((xs ((i + 1)).toNat)), .inr (.inl 30)], n151, D152, s153, p154, c155) _
        refine tt_k 4 (S' := (550, [some (.inr (.inl 1000004)), some (.inr (.inl 0)), some (.inr (.inl 30)), some (.inr (.inl 47)), some (.inl i), some (.inl r157), o6], [.inl (i + 2), .inr (.inl 1000004), .inl ((xs ((i + 1)).toNat)), .inr (.inl 30)], n151, D152, s153, p154, c155)) rfl ?_
        refine tt_stat (j := 4) (i := (i + 2)) rfl hs (by omega) ?_
        show tt Zi 12 0 (551, [some (.inr (.inl 1000004)), some (.inr (.inl 0)), some (.inr (.inl 30)), some (.inr (.inl 47)), some (.inl i), some (.inl r157), o6], [.inl ((xs ((i + 2)).toNat)), .inl ((xs ((i + 1)).toNat)), .inr (.inl 30)], n151, D152, s153, p154, c155) _
        refine tt_k 4 (S' := (556, [some (.inr (.inl 1000004)), some (.inr (.inl 0)), some (.inr (.inl 30)), some (.inr (.inl 47)), some (.inl i), some (.inl r157), o6], [.inl (i + 3), .inr (.inl 1000004), .inl ((xs ((i + 2)).toNat)), .inl ((xs ((i + 1)).toNat)), .inr (.inl 30)], n151, D152, s153, p154, c155)) rfl ?_
        refine tt_stat (j := 4) (i := (i + 3)) rfl hs (by omega) ?_
        show tt Zi 12 0 (557, [some (.inr (.inl 1000004)), some (.inr (.inl 0)), some (.inr (.inl 30)), some (.inr (.inl 47)), some (.inl i), some (.inl r157), o6], [.inl ((xs ((i + 3)).toNat)), .inl ((xs ((i + 2)).toNat)), .inl ((xs ((i + 1)).toNat)), .inr (.inl 30)], n151, D152, s153, p154, c155) _
        refine tt_k 4 (S' := (562, [some (.inr (.inl 1000004)), some (.inr (.inl 0)), some (.inr (.inl 30)), some (.inr (.inl 47)), some (.inl i), some (.inl r157), o6], [.inl (i + 4), .inr (.inl 1000004), .inl ((xs ((i + 3)).toNat)), .inl ((xs ((i + 2)).toNat)), .inl ((xs ((i + 1)).toNat)), .inr (.inl 30)], n151, D152, s153, p154, c155)) rfl ?_
        refine tt_stat (j := 4) (i := (i + 4)) rfl hs (by omega) ?_
        show tt Zi 12 0 (563, [some (.inr (.inl 1000004)), some (.inr (.inl 0)), some (.inr (.inl 30)), some (.inr (.inl 47)), some (.inl i), some (.inl r157), o6], [.inl ((xs ((i + 4)).toNat)), .inl ((xs ((i + 3)).toNat)), .inl ((xs ((i + 2)).toNat)), .inl ((xs ((i + 1)).toNat)), .inr (.inl 30)], n151, D152, s153, p154, c155) _
        refine tt_k 4 (S' := (568, [some (.inr (.inl 1000004)), some (.inr (.inl 0)), some (.inr (.inl 30)), some (.inr (.inl 47)), some (.inl i), some (.inl r157), o6], [.inl (i + 5), .inr (.inl 1000004), .inl ((xs ((i + 4)).toNat)), .inl ((xs ((i + 3)).toNat)), .inl ((xs ((i + 2)).toNat)), .inl ((xs ((i + 1)).toNat)), .inr (.inl 30)], n151, D152, s153, p154, c155)) rfl ?_
        refine tt_stat (j := 4) (i := (i + 5)) rfl hs (by omega) ?_
        show tt Zi 12 0 (569, [some (.inr (.inl 1000004)), some (.inr (.inl 0)), some (.inr (.inl 30)), some (.inr (.inl 47)), some (.inl i), some (.inl r157), o6], [.inl ((xs ((i + 5)).toNat)), .inl ((xs ((i + 4)).toNat)), .inl ((xs ((i + 3)).toNat)), .inl ((xs ((i + 2)).toNat)), .inl ((xs ((i + 1)).toNat)), .inr (.inl 30)], n151, D152, s153, p154, c155) _
        refine tt_cl (by omega) rfl (k_feed (Zi := Zi) (D := D152) (s := s153) (p := p154) (c := c155) (by omega) hS153 hC155 ((xs ((i + 1)).toNat)) ((xs ((i + 2)).toNat)) ((xs ((i + 3)).toNat)) ((xs ((i + 4)).toNat)) ((xs ((i + 5)).toNat)) (by omega) (by omega) (by omega) (by omega) (by omega)) ?_
        rintro _ _ ⟨s159, c160, r161, rfl, rfl, hS159, hC160, f162, g163, b164⟩
        have hW165 := wp_fr f162 (by decide) hW154
        show tt Zi 12 0 (572, [some (.inr (.inl 1000004)), some (.inr (.inl 0)), some (.inr (.inl 30)), some (.inr (.inl 47)), some (.inl i), some (.inl r157), o6], [.inl r161], n151, D152, s159, p154, c160) _
        refine tt_k 4 (S' := (23, [some (.inr (.inl 1000004)), some (.inr (.inl 0)), some (.inr (.inl 30)), some (.inr (.inl 47)), some (.inl (i + 9)), some (.inl r157), some (.inl r161)], [], n151, D152, s159, p154, c160)) rfl ?_
        exact ih (q + 1) (i + 9) (some (.inl r157)) (some (.inl r161)) (n151, D152, s159, p154, c160) ⟨hS159, hC160, hW165⟩ (by omega) (by omega) (by omega) (by omega)
      by_cases h166 : (mi_and (xs (i).toNat) 15) = 8
      · have h167 := h166
        refine tt_tsw (x := (mi_and (xs (i).toNat) 15)) (off := 537) rfl (by omega) (by omega) (by rw [h166]; rfl) rfl ?_
        show tt Zi 12 0 (577, [some (.inr (.inl 1000004)), some (.inr (.inl 0)), some (.inr (.inl 30)), some (.inr (.inl 47)), some (.inl i), o5, o6], [], n, D, s, p, c) _
        refine tt_k 5 (S' := (583, [some (.inr (.inl 1000004)), some (.inr (.inl 0)), some (.inr (.inl 30)), some (.inr (.inl 47)), some (.inl i), o5, o6], [.inl (i + 1), .inr (.inl 1000004), .inr (.inl 0)], n, D, s, p, c)) rfl ?_
        refine tt_stat (j := 4) (i := (i + 1)) rfl hs (by omega) ?_
        show tt Zi 12 0 (584, [some (.inr (.inl 1000004)), some (.inr (.inl 0)), some (.inr (.inl 30)), some (.inr (.inl 47)), some (.inl i), o5, o6], [.inl ((xs ((i + 1)).toNat)), .inr (.inl 0)], n, D, s, p, c) _
        have b168 := hxs ((i + 1)).toNat
        refine tt_cl (by omega) rfl (h_end (Zi := Zi) (q := q) (n := n) (D := D) (s := s) (p := p) (c := c) (by omega) hz (by omega) hS hC hW ((xs ((i + 1)).toNat)) (by omega)) ?_
        rintro _ ⟨n169, D170, s171, p172, c173⟩ ⟨r175, rfl, b176, hY174⟩
        have hS171 : bS s171 := hY174.1
        have hC173 : bC D170 c173 := hY174.2.1
        have hW172 : wp _ n169 D170 p172 s171 := hY174.2.2
        show tt Zi 12 0 (587, [some (.inr (.inl 1000004)), some (.inr (.inl 0)), some (.inr (.inl 30)), some (.inr (.inl 47)), some (.inl i), o5, o6], [.inl r175], n169, D170, s171, p172, c173) _
        refine tt_k 6 (S' := (595, [some (.inr (.inl 1000004)), some (.inr (.inl 0)), some (.inr (.inl 30)), some (.inr (.inl 47)), some (.inl i), some (.inl r175), o6], [.inl (i + 1), .inr (.inl 1000004), .inr (.inl 30)], n169, D170, s171, p172, c173)) rfl ?_
        refine tt_stat (j := 4) (i := (i + 1)) rfl hs (by omega) ?_
        show tt Zi 12 0 (596, [some (.inr (.inl 1000004)), some (.inr (.inl 0)), some (.inr (.inl 30)), some (.inr (.inl 47)), some (.inl i), some (.inl r175), o6], [.inl ((xs ((i + 1)).toNat)), .inr (.inl 30)], n169, D170, s171, p172, c173) _
        refine tt_cl (by omega) rfl (k_end (Zi := Zi) (D := D170) (s := s171) (p := p172) (c := c173) (by omega) hS171 hC173 ((xs ((i + 1)).toNat)) (by omega)) ?_
        rintro _ _ ⟨s177, rfl, rfl, hS177, f178, k179, k180⟩
        have hW181 := wp_fr f178 (by decide) hW172
        show tt Zi 12 0 (599, [some (.inr (.inl 1000004)), some (.inr (.inl 0)), some (.inr (.inl 30)), some (.inr (.inl 47)), some (.inl i), some (.inl r175), o6], [], n169, D170, s177, p172, c173) _
        refine tt_k 3 (S' := (23, [some (.inr (.inl 1000004)), some (.inr (.inl 0)), some (.inr (.inl 30)), some (.inr (.inl 47)), some (.inl (i + 9)), some (.inl r175), o6], [], n169, D170, s177, p172, c173)) rfl ?_
        exact ih (q + 1) (i + 9) (some (.inl r175)) (o6) (n169, D170, s177, p172, c173) ⟨hS177, hC173, hW181⟩ (by omega) (by omega) (by omega) (by omega)
      by_cases h182 : (mi_and (xs (i).toNat) 15) = 9
      · have h183 := h182
        refine tt_tsw (x := (mi_and (xs (i).toNat) 15)) (off := 562) rfl (by omega) (by omega) (by rw [h182]; rfl) rfl ?_
        show tt Zi 12 0 (602, [some (.inr (.inl 1000004)), some (.inr (.inl 0)), some (.inr (.inl 30)), some (.inr (.inl 47)), some (.inl i), o5, o6], [], n, D, s, p, c) _
        refine tt_k 5 (S' := (608, [some (.inr (.inl 1000004)), some (.inr (.inl 0)), some (.inr (.inl 30)), some (.inr (.inl 47)), some (.inl i), o5, o6], [.inl (i + 1), .inr (.inl 1000004), .inr (.inl 0)], n, D, s, p, c)) rfl ?_
        refine tt_stat (j := 4) (i := (i + 1)) rfl hs (by omega) ?_
        show tt Zi 12 0 (609, [some (.inr (.inl 1000004)), some (.inr (.inl 0)), some (.inr (.inl 30)), some (.inr (.inl 47)), some (.inl i), o5, o6], [.inl ((xs ((i + 1)).toNat)), .inr (.inl 0)], n, D, s, p, c) _
        have b184 := hxs ((i + 1)).toNat
        refine tt_k 4 (S' := (614, [some (.inr (.inl 1000004)), some (.inr (.inl 0)), some (.inr (.inl 30)), some (.inr (.inl 47)), some (.inl i), o5, o6], [.inl (i + 2), .inr (.inl 1000004), .inl ((xs ((i + 1)).toNat)), .inr (.inl 0)], n, D, s, p, c)) rfl ?_
        refine tt_stat (j := 4) (i := (i + 2)) rfl hs (by omega) ?_
        show tt Zi 12 0 (615, [some (.inr (.inl 1000004)), some (.inr (.inl 0)), some (.inr (.inl 30)), some (.inr (.inl 47)), some (.inl i), o5, o6], [.inl ((xs ((i + 2)).toNat)), .inl ((xs ((i + 1)).toNat)), .inr (.inl 0)], n, D, s, p, c) _
        have b185 := hxs ((i + 2)).toNat
        refine tt_k 1 (S' := (616, [some (.inr (.inl 1000004)), some (.inr (.inl 0)), some (.inr (.inl 30)), some (.inr (.inl 47)), some (.inl i), o5, o6], [.inr (.inl 47), .inl ((xs ((i + 2)).toNat)), .inl ((xs ((i + 1)).toNat)), .inr (.inl 0)], n, D, s, p, c)) rfl ?_
        refine tt_cl (by omega) rfl (h_change (Zi := Zi) (q := q) (n := n) (D := D) (s := s) (p := p) (c := c) (by omega) hz (by omega) hS hC hW ((xs ((i + 1)).toNat)) ((xs ((i + 2)).toNat)) (by omega) (by omega)) ?_
        rintro _ ⟨n186, D187, s188, p189, c190⟩ ⟨r192, rfl, b193, hY191⟩
        have hS188 : bS s188 := hY191.1
        have hC190 : bC D187 c190 := hY191.2.1
        have hW189 : wp _ n186 D187 p189 s188 := hY191.2.2
        show tt Zi 12 0 (619, [some (.inr (.inl 1000004)), some (.inr (.inl 0)), some (.inr (.inl 30)), some (.inr (.inl 47)), some (.inl i), o5, o6], [.inl r192], n186, D187, s188, p189, c190) _
        refine tt_k 6 (S' := (627, [some (.inr (.inl 1000004)), some (.inr (.inl 0)), some (.inr (.inl 30)), some (.inr (.inl 47)), some (.inl i), some (.inl r192), o6], [.inl (i + 1), .inr (.inl 1000004), .inr (.inl 30)], n186, D187, s188, p189, c190)) rfl ?_
        refine tt_stat (j := 4) (i := (i + 1)) rfl hs (by omega) ?_
        show tt Zi 12 0 (628, [some (.inr (.inl 1000004)), some (.inr (.inl 0)), some (.inr (.inl 30)), some (.inr (.inl 47)), some (.inl i), some (.inl r192), o6], [.inl ((xs ((i + 1)).toNat)), .inr (.inl 30)], n186, D187, s188, p189, c190) _
        refine tt_k 4 (S' := (633, [some (.inr (.inl 1000004)), some (.inr (.inl 0)), some (.inr (.inl 30)), some (.inr (.inl 47)), some (.inl i), some (.inl r192), o6], [.inl (i + 2), .inr (.inl 1000004), .inl ((xs ((i + 1)).toNat)), .inr (.inl 30)], n186, D187, s188, p189, c190)) rfl ?_
        refine tt_stat (j := 4) (i := (i + 2)) rfl hs (by omega) ?_
        show tt Zi 12 0 (634, [some (.inr (.inl 1000004)), some (.inr (.inl 0)), some (.inr (.inl 30)), some (.inr (.inl 47)), some (.inl i), some (.inl r192), o6], [.inl ((xs ((i + 2)).toNat)), .inl ((xs ((i + 1)).toNat)), .inr (.inl 30)], n186, D187, s188, p189, c190) _
        refine tt_cl (by omega) rfl (k_change (Zi := Zi) (D := D187) (s := s188) (p := p189) (c := c190) (by omega) hS188 hC190 ((xs ((i + 1)).toNat)) ((xs ((i + 2)).toNat)) (by omega) (by omega)) ?_
        rintro _ _ ⟨s194, c195, r196, rfl, rfl, hS194, hC195, f197, g198, b199⟩
        have hW200 := wp_fr f197 (by decide) hW189
        show tt Zi 12 0 (637, [some (.inr (.inl 1000004)), some (.inr (.inl 0)), some (.inr (.inl 30)), some (.inr (.inl 47)), some (.inl i), some (.inl r192), o6], [.inl r196], n186, D187, s194, p189, c195) _
        refine tt_k 4 (S' := (23, [some (.inr (.inl 1000004)), some (.inr (.inl 0)), some (.inr (.inl 30)), some (.inr (.inl 47)), some (.inl (i + 9)), some (.inl r192), some (.inl r196)], [], n186, D187, s194, p189, c195)) rfl ?_
        exact ih (q + 1) (i + 9) (some (.inl r192)) (some (.inl r196)) (n186, D187, s194, p189, c195) ⟨hS194, hC195, hW200⟩ (by omega) (by omega) (by omega) (by omega)
      by_cases h201 : (mi_and (xs (i).toNat) 15) = 10
      · have h202 := h201
        refine tt_tsw (x := (mi_and (xs (i).toNat) 15)) (off := 602) rfl (by omega) (by omega) (by rw [h201]; rfl) rfl ?_
        show tt Zi 12 0 (642, [some (.inr (.inl 1000004)), some (.inr (.inl 0)), some (.inr (.inl 30)), some (.inr (.inl 47)), some (.inl i), o5, o6], [], n, D, s, p, c) _
        refine tt_k 2 (S' := (644, [some (.inr (.inl 1000004)), some (.inr (.inl 0)), some (.inr (.inl 30)), some (.inr (.inl 47)), some (.inl i), o5, o6], [.inr (.inl 47), .inr (.inl 0)], n, D, s, p, c)) rfl ?_
        refine tt_cl (by omega) rfl (h_turn (Zi := Zi) (q := q) (n := n) (D := D) (s := s) (p := p) (c := c) (by omega) hz (by omega) hS hC hW ) ?_
        rintro _ ⟨n203, D204, s205, p206, c207⟩ ⟨r209, rfl, b210, hY208⟩
        have hS205 : bS s205 := hY208.1
        have hC207 : bC D204 c207 := hY208.2.1
        have hW206 : wp _ n203 D204 p206 s205 := hY208.2.2
        show tt Zi 12 0 (647, [some (.inr (.inl 1000004)), some (.inr (.inl 0)), some (.inr (.inl 30)), some (.inr (.inl 47)), some (.inl i), o5, o6], [.inl r209], n203, D204, s205, p206, c207) _
        refine tt_k 2 (S' := (650, [some (.inr (.inl 1000004)), some (.inr (.inl 0)), some (.inr (.inl 30)), some (.inr (.inl 47)), some (.inl i), some (.inl r209), o6], [.inr (.inl 30)], n203, D204, s205, p206, c207)) rfl ?_
        refine tt_cl (by omega) rfl (k_turn (Zi := Zi) (D := D204) (s := s205) (p := p206) (c := c207) (by omega) hS205 hC207 ) ?_
        rintro _ _ ⟨s211, c212, r213, rfl, rfl, hS211, hC212, f214, g215, b216⟩
        have hW217 := wp_fr f214 (by decide) hW206
        show tt Zi 12 0 (653, [some (.inr (.inl 1000004)), some (.inr (.inl 0)), some (.inr (.inl 30)), some (.inr (.inl 47)), some (.inl i), some (.inl r209), o6], [.inl r213], n203, D204, s211, p206, c212) _
        refine tt_k 4 (S' := (23, [some (.inr (.inl 1000004)), some (.inr (.inl 0)), some (.inr (.inl 30)), some (.inr (.inl 47)), some (.inl (i + 9)), some (.inl r209), some (.inl r213)], [], n203, D204, s211, p206, c212)) rfl ?_
        exact ih (q + 1) (i + 9) (some (.inl r209)) (some (.inl r213)) (n203, D204, s211, p206, c212) ⟨hS211, hC212, hW217⟩ (by omega) (by omega) (by omega) (by omega)
      by_cases h218 : (mi_and (xs (i).toNat) 15) = 11
      · have h219 := h218
        refine tt_tsw (x := (mi_and (xs (i).toNat) 15)) (off := 618) rfl (by omega) (by omega) (by rw [h218]; rfl) rfl ?_
        show tt Zi 12 0 (658, [some (.inr (.inl 1000004)), some (.inr (.inl 0)), some (.inr (.inl 30)), some (.inr (.inl 47)), some (.inl i), o5, o6], [], n, D, s, p, c) _
        refine tt_k 1 (S' := (659, [some (.inr (.inl 1000004)), some (.inr (.inl 0)), some (.inr (.inl 30)), some (.inr (.inl 47)), some (.inl i), o5, o6], [.inr (.inl 0)], n, D, s, p, c)) rfl ?_
        refine tt_cl (by omega) rfl (g_unpack (Zi := Zi) (q := q) (n := n) (D := D) (s := s) (p := p) (c := c) (by omega) hz (by omega) hS hC hW ) ?_
        rintro _ ⟨n220, D221, s222, p223, c224⟩ ⟨r226, rfl, b227, hY225⟩
        have hS222 : bS s222 := hY225.1
        have hC224 : bC D221 c224 := hY225.2.1
        have hW223 : wp _ n220 D221 p223 s222 := hY225.2.2
        show tt Zi 12 0 (662, [some (.inr (.inl 1000004)), some (.inr (.inl 0)), some (.inr (.inl 30)), some (.inr (.inl 47)), some (.inl i), o5, o6], [.inl r226], n220, D221, s222, p223, c224) _
        refine tt_k 2 (S' := (664, [some (.inr (.inl 1000004)), some (.inr (.inl 0)), some (.inr (.inl 30)), some (.inr (.inl 47)), some (.inl i), o5, o6], [.inr (.inl 30)], n220, D221, s222, p223, c224)) rfl ?_
        refine tt_cl (by omega) rfl (k_unpack (Zi := Zi) (D := D221) (s := s222) (p := p223) (c := c224) (by omega) hS222 hC224 ) ?_
        rintro _ _ ⟨s228, c229, r230, rfl, rfl, hS228, hC229, f231, g232, b233⟩
        have hW234 := wp_fr f231 (by decide) hW223
        show tt Zi 12 0 (667, [some (.inr (.inl 1000004)), some (.inr (.inl 0)), some (.inr (.inl 30)), some (.inr (.inl 47)), some (.inl i), o5, o6], [.inl r230], n220, D221, s228, p223, c229) _
        refine tt_k 4 (S' := (23, [some (.inr (.inl 1000004)), some (.inr (.inl 0)), some (.inr (.inl 30)), some (.inr (.inl 47)), some (.inl (i + 9)), o5, o6], [], n220, D221, s228, p223, c229)) rfl ?_
        exact ih (q + 1) (i + 9) (o5) (o6) (n220, D221, s228, p223, c229) ⟨hS228, hC229, hW234⟩ (by omega) (by omega) (by omega) (by omega)
      by_cases h235 : (mi_and (xs (i).toNat) 15) = 12
      · have h236 := h235
        refine tt_tsw (x := (mi_and (xs (i).toNat) 15)) (off := 631) rfl (by omega) (by omega) (by rw [h235]; rfl) rfl ?_
        show tt Zi 12 0 (671, [some (.inr (.inl 1000004)), some (.inr (.inl 0)), some (.inr (.inl 30)), some (.inr (.inl 47)), some (.inl i), o5, o6], [], n, D, s, p, c) _
        refine tt_k 1 (S' := (672, [some (.inr (.inl 1000004)), some (.inr (.inl 0)), some (.inr (.inl 30)), some (.inr (.inl 47)), some (.inl i), o5, o6], [.inr (.inl 0)], n, D, s, p, c)) rfl ?_
        refine tt_cl (by omega) rfl (g_place (Zi := Zi) (q := q) (n := n) (D := D) (s := s) (p := p) (c := c) (by omega) hz (by omega) hS hC hW ) ?_
        rintro _ ⟨n237, D238, s239, p240, c241⟩ ⟨r243, rfl, b244, hY242⟩
        have hS239 : bS s239 := hY242.1
        have hC241 : bC D238 c241 := hY242.2.1
        have hW240 : wp _ n237 D238 p240 s239 := hY242.2.2
        show tt Zi 12 0 (675, [some (.inr (.inl 1000004)), some (.inr (.inl 0)), some (.inr (.inl 30)), some (.inr (.inl 47)), some (.inl i), o5, o6], [.inl r243], n237, D238, s239, p240, c241) _
        refine tt_k 2 (S' := (677, [some (.inr (.inl 1000004)), some (.inr (.inl 0)), some (.inr (.inl 30)), some (.inr (.inl 47)), some (.inl i), o5, o6], [.inr (.inl 30)], n237, D238, s239, p240, c241)) rfl ?_
        refine tt_cl (by omega) rfl (k_place (Zi := Zi) (D := D238) (s := s239) (p := p240) (c := c241) (by omega) hS239 hC241 ) ?_
        rintro _ _ ⟨s245, r246, rfl, rfl, hS245, f247, b248, k249, k250⟩
        have hW251 := wp_fr f247 (by decide) hW240
        show tt Zi 12 0 (680, [some (.inr (.inl 1000004)), some (.inr (.inl 0)), some (.inr (.inl 30)), some (.inr (.inl 47)), some (.inl i), o5, o6], [.inl r246], n237, D238, s245, p240, c241) _
        refine tt_k 4 (S' := (23, [some (.inr (.inl 1000004)), some (.inr (.inl 0)), some (.inr (.inl 30)), some (.inr (.inl 47)), some (.inl (i + 9)), o5, o6], [], n237, D238, s245, p240, c241)) rfl ?_
        exact ih (q + 1) (i + 9) (o5) (o6) (n237, D238, s245, p240, c241) ⟨hS245, hC241, hW251⟩ (by omega) (by omega) (by omega) (by omega)
      by_cases h252 : (mi_and (xs (i).toNat) 15) = 13
      · have h253 := h252
        refine tt_tsw (x := (mi_and (xs (i).toNat) 15)) (off := 644) rfl (by omega) (by omega) (by rw [h252]; rfl) rfl ?_
        show tt Zi 12 0 (684, [some (.inr (.inl 1000004)), some (.inr (.inl 0)), some (.inr (.inl 30)), some (.inr (.inl 47)), some (.inl i), o5, o6], [], n, D, s, p, c) _
        refine tt_k 5 (S' := (690, [some (.inr (.inl 1000004)), some (.inr (.inl 0)), some (.inr (.inl 30)), some (.inr (.inl 47)), some (.inl i), o5, o6], [.inl (i + 1), .inr (.inl 1000004), .inr (.inl 0)], n, D, s, p, c)) rfl ?_
        refine tt_stat (j := 4) (i := (i + 1)) rfl hs (by omega) ?_
        show tt Zi 12 0 (691, [some (.inr (.inl 1000004)), some (.inr (.inl 0)), some (.inr (.inl 30)), some (.inr (.inl 47)), some (.inl i), o5, o6], [.inl ((xs ((i + 1)).toNat)), .inr (.inl 0)], n, D, s, p, c) _
        have b254 := hxs ((i + 1)).toNat
        refine tt_k 1 (S' := (692, [some (.inr (.inl 1000004)), some (.inr (.inl 0)), some (.inr (.inl 30)), some (.inr (.inl 47)), some (.inl i), o5, o6], [.inr (.inl 47), .inl ((xs ((i + 1)).toNat)), .inr (.inl 0)], n, D, s, p, c)) rfl ?_
        refine tt_cl (by omega) rfl (h_about (Zi := Zi) (q := q) (n := n) (D := D) (s := s) (p := p) (c := c) (by omega) hz (by omega) hS hC hW ((xs ((i + 1)).toNat)) (by omega)) ?_
        rintro _ ⟨n255, D256, s257, p258, c259⟩ ⟨r261, rfl, b262, hY260⟩
        have hS257 : bS s257 := hY260.1
        have hC259 : bC D256 c259 := hY260.2.1
        have hW258 : wp _ n255 D256 p258 s257 := hY260.2.2
        show tt Zi 12 0 (695, [some (.inr (.inl 1000004)), some (.inr (.inl 0)), some (.inr (.inl 30)), some (.inr (.inl 47)), some (.inl i), o5, o6], [.inl r261], n255, D256, s257, p258, c259) _
        refine tt_k 6 (S' := (703, [some (.inr (.inl 1000004)), some (.inr (.inl 0)), some (.inr (.inl 30)), some (.inr (.inl 47)), some (.inl i), some (.inl r261), o6], [.inl (i + 1), .inr (.inl 1000004), .inr (.inl 30)], n255, D256, s257, p258, c259)) rfl ?_
        refine tt_stat (j := 4) (i := (i + 1)) rfl hs (by omega) ?_
        show tt Zi 12 0 (704, [some (.inr (.inl 1000004)), some (.inr (.inl 0)), some (.inr (.inl 30)), some (.inr (.inl 47)), some (.inl i), some (.inl r261), o6], [.inl ((xs ((i + 1)).toNat)), .inr (.inl 30)], n255, D256, s257, p258, c259) _
        refine tt_cl (by omega) rfl (k_about (Zi := Zi) (D := D256) (s := s257) (p := p258) (c := c259) (by omega) hS257 hC259 ((xs ((i + 1)).toNat)) (by omega)) ?_
        rintro _ _ ⟨s263, r264, rfl, rfl, hS263, f265, b266⟩
        have hW267 := wp_fr f265 (by decide) hW258
        show tt Zi 12 0 (707, [some (.inr (.inl 1000004)), some (.inr (.inl 0)), some (.inr (.inl 30)), some (.inr (.inl 47)), some (.inl i), some (.inl r261), o6], [.inl r264], n255, D256, s263, p258, c259) _
        refine tt_k 4 (S' := (23, [some (.inr (.inl 1000004)), some (.inr (.inl 0)), some (.inr (.inl 30)), some (.inr (.inl 47)), some (.inl (i + 9)), some (.inl r261), some (.inl r264)], [], n255, D256, s263, p258, c259)) rfl ?_
        exact ih (q + 1) (i + 9) (some (.inl r261)) (some (.inl r264)) (n255, D256, s263, p258, c259) ⟨hS263, hC259, hW267⟩ (by omega) (by omega) (by omega) (by omega)
      by_cases h268 : (mi_and (xs (i).toNat) 15) = 14
      · have h269 := h268
        refine tt_tsw (x := (mi_and (xs (i).toNat) 15)) (off := 672) rfl (by omega) (by omega) (by rw [h268]; rfl) rfl ?_
        show tt Zi 12 0 (712, [some (.inr (.inl 1000004)), some (.inr (.inl 0)), some (.inr (.inl 30)), some (.inr (.inl 47)), some (.inl i), o5, o6], [], n, D, s, p, c) _
        refine tt_k 5 (S' := (718, [some (.inr (.inl 1000004)), some (.inr (.inl 0)), some (.inr (.inl 30)), some (.inr (.inl 47)), some (.inl i), o5, o6], [.inl (i + 1), .inr (.inl 1000004), .inr (.inl 0)], n, D, s, p, c)) rfl ?_
        refine tt_stat (j := 4) (i := (i + 1)) rfl hs (by omega) ?_
        show tt Zi 12 0 (719, [some (.inr (.inl 1000004)), some (.inr (.inl 0)), some (.inr (.inl 30)), some (.inr (.inl 47)), some (.inl i), o5, o6], [.inl ((xs ((i + 1)).toNat)), .inr (.inl 0)], n, D, s, p, c) _
        have b270 := hxs ((i + 1)).toNat
        refine tt_k 4 (S' := (724, [some (.inr (.inl 1000004)), some (.inr (.inl 0)), some (.inr (.inl 30)), some (.inr (.inl 47)), some (.inl i), o5, o6], [.inl (i + 2), .inr (.inl 1000004), .inl ((xs ((i + 1)).toNat)), .inr (.inl 0)], n, D, s, p, c)) rfl ?_
        refine tt_stat (j := 4) (i := (i + 2)) rfl hs (by omega) ?_
        show tt Zi 12 0 (725, [some (.inr (.inl 1000004)), some (.inr (.inl 0)), some (.inr (.inl 30)), some (.inr (.inl 47)), some (.inl i), o5, o6], [.inl ((xs ((i + 2)).toNat)), .inl ((xs ((i + 1)).toNat)), .inr (.inl 0)], n, D, s, p, c) _
        have b271 := hxs ((i + 2)).toNat
        refine tt_k 4 (S' := (730, [some (.inr (.inl 1000004)), some (.inr (.inl 0)), some (.inr (.inl 30)), some (.inr (.inl 47)), some (.inl i), o5, o6], [.inl (i + 3), .inr (.inl 1000004), .inl ((xs ((i + 2)).toNat)), .inl ((xs ((i + 1)).toNat)), .inr (.inl 0)], n, D, s, p, c)) rfl ?_
        refine tt_stat (j := 4) (i := (i + 3)) rfl hs (by omega) ?_
        show tt Zi 12 0 (731, [some (.inr (.inl 1000004)), some (.inr (.inl 0)), some (.inr (.inl 30)), some (.inr (.inl 47)), some (.inl i), o5, o6], [.inl ((xs ((i + 3)).toNat)), .inl ((xs ((i + 2)).toNat)), .inl ((xs ((i + 1)).toNat)), .inr (.inl 0)], n, D, s, p, c) _
        have b272 := hxs ((i + 3)).toNat
        refine tt_k 1 (S' := (732, [some (.inr (.inl 1000004)), some (.inr (.inl 0)), some (.inr (.inl 30)), some (.inr (.inl 47)), some (.inl i), o5, o6], [.inr (.inl 47), .inl ((xs ((i + 3)).toNat)), .inl ((xs ((i + 2)).toNat)), .inl ((xs ((i + 1)).toNat)), .inr (.inl 0)], n, D, s, p, c)) rfl ?_
        refine tt_cl (by omega) rfl (h_sample (Zi := Zi) (q := q) (n := n) (D := D) (s := s) (p := p) (c := c) (by omega) hz (by omega) hS hC hW ((xs ((i + 1)).toNat)) ((xs ((i + 2)).toNat)) ((xs ((i + 3)).toNat)) (by omega) (by omega) (by omega)) ?_
        rintro _ ⟨n273, D274, s275, p276, c277⟩ ⟨r279, rfl, b280, hY278⟩
        have hS275 : bS s275 := hY278.1
        have hC277 : bC D274 c277 := hY278.2.1
        have hW276 : wp _ n273 D274 p276 s275 := hY278.2.2
        show tt Zi 12 0 (735, [some (.inr (.inl 1000004)), some (.inr (.inl 0)), some (.inr (.inl 30)), some (.inr (.inl 47)), some (.inl i), o5, o6], [.inl r279], n273, D274, s275, p276, c277) _
        refine tt_k 6 (S' := (743, [some (.inr (.inl 1000004)), some (.inr (.inl 0)), some (.inr (.inl 30)), some (.inr (.inl 47)), some (.inl i), some (.inl r279), o6], [.inl (i + 1), .inr (.inl 1000004), .inr (.inl 30)], n273, D274, s275, p276, c277)) rfl ?_
        refine tt_stat (j := 4) (i := (i + 1)) rfl hs (by omega) ?_
        show tt Zi 12 0 (744, [some (.inr (.inl 1000004)), some (.inr (.inl 0)), some (.inr (.inl 30)), some (.inr (.inl 47)), some (.inl i), some (.inl r279), o6], [.inl ((xs ((i + 1)).toNat)), .inr (.inl 30)], n273, D274, s275, p276, c277) _
        refine tt_k 4 (S' := (749, [some (.inr (.inl 1000004)), some (.inr (.inl 0)), some (.inr (.inl 30)), some (.inr (.inl 47)), some (.inl i), some (.inl r279), o6], [.inl (i + 2), .inr (.inl 1000004), .inl ((xs ((i + 1)).toNat)), .inr (.inl 30)], n273, D274, s275, p276, c277)) rfl ?_
        refine tt_stat (j := 4) (i := (i + 2)) rfl hs (by omega) ?_
        show tt Zi 12 0 (750, [some (.inr (.inl 1000004)), some (.inr (.inl 0)), some (.inr (.inl 30)), some (.inr (.inl 47)), some (.inl i), some (.inl r279), o6], [.inl ((xs ((i + 2)).toNat)), .inl ((xs ((i + 1)).toNat)), .inr (.inl 30)], n273, D274, s275, p276, c277) _
        refine tt_k 4 (S' := (755, [some (.inr (.inl 1000004)), some (.inr (.inl 0)), some (.inr (.inl 30)), some (.inr (.inl 47)), some (.inl i), some (.inl r279), o6], [.inl (i + 3), .inr (.inl 1000004), .inl ((xs ((i + 2)).toNat)), .inl ((xs ((i + 1)).toNat)), .inr (.inl 30)], n273, D274, s275, p276, c277)) rfl ?_
        refine tt_stat (j := 4) (i := (i + 3)) rfl hs (by omega) ?_
        show tt Zi 12 0 (756, [some (.inr (.inl 1000004)), some (.inr (.inl 0)), some (.inr (.inl 30)), some (.inr (.inl 47)), some (.inl i), some (.inl r279), o6], [.inl ((xs ((i + 3)).toNat)), .inl ((xs ((i + 2)).toNat)), .inl ((xs ((i + 1)).toNat)), .inr (.inl 30)], n273, D274, s275, p276, c277) _
        refine tt_cl (by omega) rfl (k_sample (Zi := Zi) (D := D274) (s := s275) (p := p276) (c := c277) (by omega) hS275 hC277 ((xs ((i + 1)).toNat)) ((xs ((i + 2)).toNat)) ((xs ((i + 3)).toNat)) (by omega) (by omega) (by omega)) ?_
        rintro _ _ ⟨s281, r282, rfl, rfl, hS281, f283, b284⟩
        have hW285 := wp_fr f283 (by decide) hW276
        show tt Zi 12 0 (759, [some (.inr (.inl 1000004)), some (.inr (.inl 0)), some (.inr (.inl 30)), some (.inr (.inl 47)), some (.inl i), some (.inl r279), o6], [.inl r282], n273, D274, s281, p276, c277) _
        refine tt_k 4 (S' := (23, [some (.inr (.inl 1000004)), some (.inr (.inl 0)), some (.inr (.inl 30)), some (.inr (.inl 47)), some (.inl (i + 9)), some (.inl r279), some (.inl r282)], [], n273, D274, s281, p276, c277)) rfl ?_
        exact ih (q + 1) (i + 9) (some (.inl r279)) (some (.inl r282)) (n273, D274, s281, p276, c277) ⟨hS281, hC277, hW285⟩ (by omega) (by omega) (by omega) (by omega)
      by_cases h286 : (mi_and (xs (i).toNat) 15) = 15
      · have h287 := h286
        refine tt_tsw (x := (mi_and (xs (i).toNat) 15)) (off := 724) rfl (by omega) (by omega) (by rw [h286]; rfl) rfl ?_
        show tt Zi 12 0 (764, [some (.inr (.inl 1000004)), some (.inr (.inl 0)), some (.inr (.inl 30)), some (.inr (.inl 47)), some (.inl i), o5, o6], [], n, D, s, p, c) _
        refine tt_k 5 (S' := (770, [some (.inr (.inl 1000004)), some (.inr (.inl 0)), some (.inr (.inl 30)), some (.inr (.inl 47)), some (.inl i), o5, o6], [.inl (i + 1), .inr (.inl 1000004), .inr (.inl 0)], n, D, s, p, c)) rfl ?_
        refine tt_stat (j := 4) (i := (i + 1)) rfl hs (by omega) ?_
        show tt Zi 12 0 (771, [some (.inr (.inl 1000004)), some (.inr (.inl 0)), some (.inr (.inl 30)), some (.inr (.inl 47)), some (.inl i), o5, o6], [.inl ((xs ((i + 1)).toNat)), .inr (.inl 0)], n, D, s, p, c) _
        have b288 := hxs ((i + 1)).toNat
        refine tt_k 4 (S' := (776, [some (.inr (.inl 1000004)), some (.inr (.inl 0)), some (.inr (.inl 30)), some (.inr (.inl 47)), some (.inl i), o5, o6], [.inl (i + 2), .inr (.inl 1000004), .inl ((xs ((i + 1)).toNat)), .inr (.inl 0)], n, D, s, p, c)) rfl ?_
        refine tt_stat (j := 4) (i := (i + 2)) rfl hs (by omega) ?_
        show tt Zi 12 0 (777, [some (.inr (.inl 1000004)), some (.inr (.inl 0)), some (.inr (.inl 30)), some (.inr (.inl 47)), some (.inl i), o5, o6], [.inl ((xs ((i + 2)).toNat)), .inl ((xs ((i + 1)).toNat)), .inr (.inl 0)], n, D, s, p, c) _
        have b289 := hxs ((i + 2)).toNat
        refine tt_k 1 (S' := (778, [some (.inr (.inl 1000004)), some (.inr (.inl 0)), some (.inr (.inl 30)), some (.inr (.inl 47)), some (.inl i), o5, o6], [.inr (.inl 47), .inl ((xs ((i + 2)).toNat)), .inl ((xs ((i + 1)).toNat)), .inr (.inl 0)], n, D, s, p, c)) rfl ?_
        refine tt_cl (by omega) rfl (h_learned (Zi := Zi) (q := q) (n := n) (D := D) (s := s) (p := p) (c := c) (by omega) hz (by omega) hS hC hW ((xs ((i + 1)).toNat)) ((xs ((i + 2)).toNat)) (by omega) (by omega)) ?_
        rintro _ ⟨n290, D291, s292, p293, c294⟩ ⟨r296, rfl, b297, hY295⟩
        have hS292 : bS s292 := hY295.1
        have hC294 : bC D291 c294 := hY295.2.1
        have hW293 : wp _ n290 D291 p293 s292 := hY295.2.2
        show tt Zi 12 0 (781, [some (.inr (.inl 1000004)), some (.inr (.inl 0)), some (.inr (.inl 30)), some (.inr (.inl 47)), some (.inl i), o5, o6], [.inl r296], n290, D291, s292, p293, c294) _
        refine tt_k 6 (S' := (789, [some (.inr (.inl 1000004)), some (.inr (.inl 0)), some (.inr (.inl 30)), some (.inr (.inl 47)), some (.inl i), some (.inl r296), o6], [.inl (i + 1), .inr (.inl 1000004), .inr (.inl 30)], n290, D291, s292, p293, c294)) rfl ?_
        refine tt_stat (j := 4) (i := (i + 1)) rfl hs (by omega) ?_
        show tt Zi 12 0 (790, [some (.inr (.inl 1000004)), some (.inr (.inl 0)), some (.inr (.inl 30)), some (.inr (.inl 47)), some (.inl i), some (.inl r296), o6], [.inl ((xs ((i + 1)).toNat)), .inr (.inl 30)], n290, D291, s292, p293, c294) _
        refine tt_k 4 (S' := (795, [some (.inr (.inl 1000004)), some (.inr (.inl 0)), some (.inr (.inl 30)), some (.inr (.inl 47)), some (.inl i), some (.inl r296), o6], [.inl (i + 2), .inr (.inl 1000004), .inl ((xs ((i + 1)).toNat)), .inr (.inl 30)], n290, D291, s292, p293, c294)) rfl ?_
        refine tt_stat (j := 4) (i := (i + 2)) rfl hs (by omega) ?_
        show tt Zi 12 0 (796, [some (.inr (.inl 1000004)), some (.inr (.inl 0)), some (.inr (.inl 30)), some (.inr (.inl 47)), some (.inl i), some (.inl r296), o6], [.inl ((xs ((i + 2)).toNat)), .inl ((xs ((i + 1)).toNat)), .inr (.inl 30)], n290, D291, s292, p293, c294) _
        refine tt_cl (by omega) rfl (k_learned (Zi := Zi) (D := D291) (s := s292) (p := p293) (c := c294) (by omega) hS292 hC294 ((xs ((i + 1)).toNat)) ((xs ((i + 2)).toNat)) (by omega) (by omega)) ?_
        rintro _ _ ⟨s298, r299, rfl, rfl, hS298, f300, b301⟩
        have hW302 := wp_fr f300 (by decide) hW293
        show tt Zi 12 0 (799, [some (.inr (.inl 1000004)), some (.inr (.inl 0)), some (.inr (.inl 30)), some (.inr (.inl 47)), some (.inl i), some (.inl r296), o6], [.inl r299], n290, D291, s298, p293, c294) _
        refine tt_k 4 (S' := (23, [some (.inr (.inl 1000004)), some (.inr (.inl 0)), some (.inr (.inl 30)), some (.inr (.inl 47)), some (.inl (i + 9)), some (.inl r296), some (.inl r299)], [], n290, D291, s298, p293, c294)) rfl ?_
        exact ih (q + 1) (i + 9) (some (.inl r296)) (some (.inl r299)) (n290, D291, s298, p293, c294) ⟨hS298, hC294, hW302⟩ (by omega) (by omega) (by omega) (by omega)
      refine tt_tsd (x := (mi_and (xs (i).toNat) 15)) rfl (by omega) (by omega) rfl ?_
      show tt Zi 12 0 (804, [some (.inr (.inl 1000004)), some (.inr (.inl 0)), some (.inr (.inl 30)), some (.inr (.inl 47)), some (.inl i), o5, o6], [], n, D, s, p, c) _
      refine tt_k 2 (S' := (23, [some (.inr (.inl 1000004)), some (.inr (.inl 0)), some (.inr (.inl 30)), some (.inr (.inl 47)), some (.inl (i + 9)), o5, o6], [], n, D, s, p, c)) rfl ?_
      exact ih q (i + 9) (o5) (o6) (n, D, s, p, c) ⟨hS, hC, hW⟩ (by omega) (by omega) (by omega) (by omega)
