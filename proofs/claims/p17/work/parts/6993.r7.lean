/-! the class reads a row into one picture, exactly -/
set_option maxRecDepth 100000 in
set_option maxHeartbeats 4000000 in
theorem e_readOther25 {g : Nat → Int} {Zi : Nat → Option (Nat × (Nat → Int))} {d n q : Nat} {D : Nat → Nat × Nat} {s : Nat → Int} {p : Nat → Nat} {c : Nat → Nat → Int} (hd : 7 ≤ d) (hz : zk Zi) (hq : q + 14 ≤ 400000) (hD : wd n p) (hS : bS s) (hC : bC D c) (hW : wp q g n D p s) (A : TN) (S : SR) (mk : Int) (b_mk : 0 ≤ mk ∧ mk ≤ 255) (hp0 : tpl A (s 601) (c (p 600))) (hp1 : rwS A (s 1705) (s 1706) (s 2500) (s 2501) (s 2502) (s 2503) (c 19) (c 18) (c (p 2504)) S) (hp2 : mk ≠ 218) : tt Zi d 79 (0, [some (.inr (.inl 17)), some (.inl mk), some (.inr (.inl 25))], [], n, D, s, p, c) (fun R H => (∃ (n' : Nat) (D' : Nat → Nat × Nat) (s' : Nat → Int) (p' : Nat → Nat) (c' : Nat → Nat → Int), R = .inl none ∧ H = (n', D', s', p', c') ∧ bS s' ∧ bC D' c' ∧ wp q g n' D' p' s' ∧ fr s s' [1705, 1706, 2001, 2500, 2501, 2502, 2503] ∧ frp p p' [2504] ∧ ext n D n' D' ∧ fk p c n' p' c' [18, 19, 2504] ∧ (∃ S2, sec A mk (s 2001) S = some S2 ∧ s' 2001 = S2.1 ∧ S2.2.2.2.2.2.1 = S.2.2.2.2.2.1 ∧ rwS A (s' 1705) (s' 1706) (s' 2500) (s' 2501) (s' 2502) (s' 2503) (c' 19) (c' 18) (c' (p' 2504)) S2) ∧ (s 2001 ≤ s' 2001)) ∨ (R = .inr 12 ∧ cXp ((q + 1)) g s p c [18, 19, 2504] [800, 801, 802, 803, 804, 805, 806, 807, 808, 809, 902, 1705, 1706, 2001, 2002, 2003, 2004, 2005, 2006, 2106, 2107, 2108, 2109, 2110, 2111, 2112, 2113, 2114, 2115, 2116, 2500, 2501, 2502, 2503] H ∧ (sec A mk (s 2001) S = none))) := by
  have b1 : 0 ≤ (s 1705) ∧ (s 1705) ≤ 1 := hS 1705
  have b2 : 0 ≤ (s 2001) ∧ (s 2001) ≤ 100000 := hS 2001
  have b3 : 0 ≤ (s 601) ∧ (s 601) ≤ 32768 := hS 601
  refine tt_k 2 (S' := (4, [some (.inr (.inl 17)), some (.inl mk), some (.inr (.inl 25))], [.inl 247, .inl mk], n, D, s, p, c)) rfl ?_
  refine tb_ne (x := mk) (y := 247) rfl rfl (by omega) (fun h4 => ?_) (fun h4 => ?_)
  · show tt Zi d 79 (22, [some (.inr (.inl 17)), some (.inl mk), some (.inr (.inl 25))], [], n, D, s, p, c) _
    refine tt_k 2 (S' := (26, [some (.inr (.inl 17)), some (.inl mk), some (.inr (.inl 25))], [.inl 248, .inl mk], n, D, s, p, c)) rfl ?_
    refine tb_ne (x := mk) (y := 248) rfl rfl (by omega) (fun h5 => ?_) (fun h5 => ?_)
    · show tt Zi d 79 (36, [some (.inr (.inl 17)), some (.inl mk), some (.inr (.inl 25))], [], n, D, s, p, c) _
      refine tt_k 2 (S' := (40, [some (.inr (.inl 17)), some (.inl mk), some (.inr (.inl 25))], [.inl 224, .inl mk], n, D, s, p, c)) rfl ?_
      refine tb_lt (x := mk) (y := 224) rfl rfl (by omega) (fun h6 => ?_) (fun h6 => ?_)
      · show tt Zi d 79 (50, [some (.inr (.inl 17)), some (.inl mk), some (.inr (.inl 25))], [], n, D, s, p, c) _
        refine tt_k 2 (S' := (54, [some (.inr (.inl 17)), some (.inl mk), some (.inr (.inl 25))], [.inl 254, .inl mk], n, D, s, p, c)) rfl ?_
        refine tb_ne (x := mk) (y := 254) rfl rfl (by omega) (fun h7 => ?_) (fun h7 => ?_)
        · show tt Zi d 79 (64, [some (.inr (.inl 17)), some (.inl mk), some (.inr (.inl 25))], [], n, D, s, p, c) _
          refine tt_k 1 (S' := (65, [some (.inr (.inl 17)), some (.inl mk), some (.inr (.inl 25))], [.inr (.inl 17)], n, D, s, p, c)) rfl ?_
          refine tt_cl (by omega) rfl (e_refuseMark (Zi := Zi) (q := q) (n := n) (D := D) (s := s) (p := p) (c := c) (by omega) hz (by omega) hD hS hC hW ) ?_
          rintro _ H1 (hF | ⟨rfl, hY8⟩)
          · exact hF.elim
          · exact tt_ax rfl (Or.inr ⟨rfl, cXp_mono (cXp_tr (fk_rf hD) (show fr s s [800, 801, 802, 803, 804, 805, 806, 807, 808, 809, 902, 1705, 1706, 2001, 2002, 2003, 2004, 2005, 2006, 2106, 2107, 2108, 2109, 2110, 2111, 2112, 2113, 2114, 2115, 2116, 2500, 2501, 2502, 2503] from fr_rf) ((frp_rf : frp p p [2504]) 8 (by decide)) hY8 (by decide) (by decide)) (by omega), (if hm7 : mk = 247 then (by rw [hm7]; exact sec_fn (fun q => rwS_1 hp1 (by omega) q.1)) else (by exact sec_x ⟨hm7, by omega, hp2⟩ (by omega)))⟩)
        · exfalso; omega
      · show tt Zi d 79 (43, [some (.inr (.inl 17)), some (.inl mk), some (.inr (.inl 25))], [], n, D, s, p, c) _
        refine tt_k 2 (S' := (47, [some (.inr (.inl 17)), some (.inl mk), some (.inr (.inl 25))], [.inl 239, .inl mk], n, D, s, p, c)) rfl ?_
        refine tb_le (x := mk) (y := 239) rfl rfl (by omega) (fun h9 => ?_) (fun h9 => ?_)
        · show tt Zi d 79 (57, [some (.inr (.inl 17)), some (.inl mk), some (.inr (.inl 25))], [], n, D, s, p, c) _
          refine tt_k 1 (S' := (58, [some (.inr (.inl 17)), some (.inl mk), some (.inr (.inl 25))], [.inr (.inl 17)], n, D, s, p, c)) rfl ?_
          refine tt_cl (by omega) rfl (e_readFree (Zi := Zi) (q := q) (n := n) (D := D) (s := s) (p := p) (c := c) (by omega) hz (by omega) hD hS hC hW A hp0) ?_
          rintro _ H1 (⟨s10, rfl, rfl, hS10, hW11, f12, k13, k14⟩ | ⟨rfl, hY15, hn16⟩)
          rotate_left
          · exact tt_ax rfl (Or.inr ⟨rfl, cXp_mono (cXp_tr (fk_rf hD) (show fr s s [800, 801, 802, 803, 804, 805, 806, 807, 808, 809, 902, 1705, 1706, 2001, 2002, 2003, 2004, 2005, 2006, 2106, 2107, 2108, 2109, 2110, 2111, 2112, 2113, 2114, 2115, 2116, 2500, 2501, 2502, 2503] from fr_rf) ((frp_rf : frp p p [2504]) 8 (by decide)) hY15 (by decide) (by decide)) (by omega), (sec_en (by omega) hn16)⟩)
          show tt Zi d 79 (61, [some (.inr (.inl 17)), some (.inl mk), some (.inr (.inl 25))], [], n, D, s10, p, c) _
          replace k13 : okE A ((s 2001)) := k13
          replace k14 : (s10 2001) = (s 2001) + gT A ((s 2001)) := k14
          have b17 : 0 ≤ (s10 2001) ∧ (s10 2001) ≤ 100000 := hS10 2001
          have e18 : s10 1705 = (s 1705) := (f12 1705 (by decide))
          have b19 : 0 ≤ (s10 1705) ∧ (s10 1705) ≤ 1 := hS10 1705
          have e20 : s10 1706 = (s 1706) := (f12 1706 (by decide))
          have b21 : 0 ≤ (s10 1706) ∧ (s10 1706) ≤ 3 := hS10 1706
          have b22 : 0 ≤ (s 1706) ∧ (s 1706) ≤ 3 := hS 1706
          have e23 : s10 2500 = (s 2500) := (f12 2500 (by decide))
          have b24 : 0 ≤ (s10 2500) ∧ (s10 2500) ≤ 64 := hS10 2500
          have b25 : 0 ≤ (s 2500) ∧ (s 2500) ≤ 64 := hS 2500
          have e26 : s10 2502 = (s 2502) := (f12 2502 (by decide))
          have b27 : 0 ≤ (s10 2502) ∧ (s10 2502) ≤ 3 := hS10 2502
          have b28 : 0 ≤ (s 2502) ∧ (s 2502) ≤ 3 := hS 2502
          have e29 : s10 2503 = (s 2503) := (f12 2503 (by decide))
          have b30 : 0 ≤ (s10 2503) ∧ (s10 2503) ≤ 16 := hS10 2503
          have b31 : 0 ≤ (s 2503) ∧ (s 2503) ≤ 16 := hS 2503
          have e32 : s10 601 = (s 601) := (f12 601 (by decide))
          have b33 : 0 ≤ (s10 601) ∧ (s10 601) ≤ 32768 := hS10 601
          have hx34 : tpl A (s10 601) (c (p 600)) := by rw [f12 601 (by decide)]; exact hp0
          refine tt_k 1 (S' := (68, [some (.inr (.inl 17)), some (.inl mk), some (.inr (.inl 25))], [], n, D, s10, p, c)) rfl ?_
          have hge := (k13).2
          exact tt_rtv rfl rfl (Or.inl ⟨n, D, s10, p, c, rfl, rfl, hS10, hC, hW11, (fr_tr fr_rf f12 (by decide)), frp_rf, ext_rf, (fk_rf hD), ⟨_, sec_e (by omega) k13, k14, rfl, (by rw [f12 1705 (by decide), f12 1706 (by decide), f12 2500 (by decide), f12 2501 (by decide), f12 2502 (by decide), f12 2503 (by decide)]; exact hp1)⟩, by show s 2001 ≤ (s10 2001); omega⟩)
        · show tt Zi d 79 (50, [some (.inr (.inl 17)), some (.inl mk), some (.inr (.inl 25))], [], n, D, s, p, c) _
          refine tt_k 2 (S' := (54, [some (.inr (.inl 17)), some (.inl mk), some (.inr (.inl 25))], [.inl 254, .inl mk], n, D, s, p, c)) rfl ?_
          refine tb_ne (x := mk) (y := 254) rfl rfl (by omega) (fun h35 => ?_) (fun h35 => ?_)
          · show tt Zi d 79 (64, [some (.inr (.inl 17)), some (.inl mk), some (.inr (.inl 25))], [], n, D, s, p, c) _
            refine tt_k 1 (S' := (65, [some (.inr (.inl 17)), some (.inl mk), some (.inr (.inl 25))], [.inr (.inl 17)], n, D, s, p, c)) rfl ?_
            refine tt_cl (by omega) rfl (e_refuseMark (Zi := Zi) (q := q) (n := n) (D := D) (s := s) (p := p) (c := c) (by omega) hz (by omega) hD hS hC hW ) ?_
            rintro _ H1 (hF | ⟨rfl, hY36⟩)
            · exact hF.elim
            · exact tt_ax rfl (Or.inr ⟨rfl, cXp_mono (cXp_tr (fk_rf hD) (show fr s s [800, 801, 802, 803, 804, 805, 806, 807, 808, 809, 902, 1705, 1706, 2001, 2002, 2003, 2004, 2005, 2006, 2106, 2107, 2108, 2109, 2110, 2111, 2112, 2113, 2114, 2115, 2116, 2500, 2501, 2502, 2503] from fr_rf) ((frp_rf : frp p p [2504]) 8 (by decide)) hY36 (by decide) (by decide)) (by omega), (if hm7 : mk = 247 then (by rw [hm7]; exact sec_fn (fun q => rwS_1 hp1 (by omega) q.1)) else (by exact sec_x ⟨hm7, by omega, hp2⟩ (by omega)))⟩)
          · show tt Zi d 79 (57, [some (.inr (.inl 17)), some (.inl mk), some (.inr (.inl 25))], [], n, D, s, p, c) _
            refine tt_k 1 (S' := (58, [some (.inr (.inl 17)), some (.inl mk), some (.inr (.inl 25))], [.inr (.inl 17)], n, D, s, p, c)) rfl ?_
            refine tt_cl (by omega) rfl (e_readFree (Zi := Zi) (q := q) (n := n) (D := D) (s := s) (p := p) (c := c) (by omega) hz (by omega) hD hS hC hW A hp0) ?_
            rintro _ H1 (⟨s37, rfl, rfl, hS37, hW38, f39, k40, k41⟩ | ⟨rfl, hY42, hn43⟩)
            rotate_left
            · exact tt_ax rfl (Or.inr ⟨rfl, cXp_mono (cXp_tr (fk_rf hD) (show fr s s [800, 801, 802, 803, 804, 805, 806, 807, 808, 809, 902, 1705, 1706, 2001, 2002, 2003, 2004, 2005, 2006, 2106, 2107, 2108, 2109, 2110, 2111, 2112, 2113, 2114, 2115, 2116, 2500, 2501, 2502, 2503] from fr_rf) ((frp_rf : frp p p [2504]) 8 (by decide)) hY42 (by decide) (by decide)) (by omega), (sec_en (by omega) hn43)⟩)
            show tt Zi d 79 (61, [some (.inr (.inl 17)), some (.inl mk), some (.inr (.inl 25))], [], n, D, s37, p, c) _
            replace k40 : okE A ((s 2001)) := k40
            replace k41 : (s37 2001) = (s 2001) + gT A ((s 2001)) := k41
            have b44 : 0 ≤ (s37 2001) ∧ (s37 2001) ≤ 100000 := hS37 2001
            have e45 : s37 1705 = (s 1705) := (f39 1705 (by decide))
            have b46 : 0 ≤ (s37 1705) ∧ (s37 1705) ≤ 1 := hS37 1705
            have e47 : s37 1706 = (s 1706) := (f39 1706 (by decide))
            have b48 : 0 ≤ (s37 1706) ∧ (s37 1706) ≤ 3 := hS37 1706
            have b49 : 0 ≤ (s 1706) ∧ (s 1706) ≤ 3 := hS 1706
            have e50 : s37 2500 = (s 2500) := (f39 2500 (by decide))
            have b51 : 0 ≤ (s37 2500) ∧ (s37 2500) ≤ 64 := hS37 2500
            have b52 : 0 ≤ (s 2500) ∧ (s 2500) ≤ 64 := hS 2500
            have e53 : s37 2502 = (s 2502) := (f39 2502 (by decide))
            have b54 : 0 ≤ (s37 2502) ∧ (s37 2502) ≤ 3 := hS37 2502
            have b55 : 0 ≤ (s 2502) ∧ (s 2502) ≤ 3 := hS 2502
            have e56 : s37 2503 = (s 2503) := (f39 2503 (by decide))
            have b57 : 0 ≤ (s37 2503) ∧ (s37 2503) ≤ 16 := hS37 2503
            have b58 : 0 ≤ (s 2503) ∧ (s 2503) ≤ 16 := hS 2503
            have e59 : s37 601 = (s 601) := (f39 601 (by decide))
            have b60 : 0 ≤ (s37 601) ∧ (s37 601) ≤ 32768 := hS37 601
            have hx61 : tpl A (s37 601) (c (p 600)) := by rw [f39 601 (by decide)]; exact hp0
            refine tt_k 1 (S' := (68, [some (.inr (.inl 17)), some (.inl mk), some (.inr (.inl 25))], [], n, D, s37, p, c)) rfl ?_
            have hge := (k40).2
            exact tt_rtv rfl rfl (Or.inl ⟨n, D, s37, p, c, rfl, rfl, hS37, hC, hW38, (fr_tr fr_rf f39 (by decide)), frp_rf, ext_rf, (fk_rf hD), ⟨_, sec_e (by omega) k40, k41, rfl, (by rw [f39 1705 (by decide), f39 1706 (by decide), f39 2500 (by decide), f39 2501 (by decide), f39 2502 (by decide), f39 2503 (by decide)]; exact hp1)⟩, by show s 2001 ≤ (s37 2001); omega⟩)
    · show tt Zi d 79 (29, [some (.inr (.inl 17)), some (.inl mk), some (.inr (.inl 25))], [], n, D, s, p, c) _
      refine tt_k 1 (S' := (30, [some (.inr (.inl 17)), some (.inl mk), some (.inr (.inl 25))], [.inr (.inl 17)], n, D, s, p, c)) rfl ?_
      refine tt_cl (by omega) rfl (e_readMeasures (Zi := Zi) (q := q) (n := n) (D := D) (s := s) (p := p) (c := c) (by omega) hz (by omega) hD hS hC hW A hp0) ?_
      rintro _ H1 (⟨s62, c63, rfl, rfl, hS62, hC63, hW64, f65, kf66, k67, k68, k69, k70⟩ | ⟨rfl, hY71, hn72⟩)
      rotate_left
      · exact tt_ax rfl (Or.inr ⟨rfl, cXp_mono (cXp_tr (fk_rf hD) (show fr s s [800, 801, 802, 803, 804, 805, 806, 807, 808, 809, 902, 1705, 1706, 2001, 2002, 2003, 2004, 2005, 2006, 2106, 2107, 2108, 2109, 2110, 2111, 2112, 2113, 2114, 2115, 2116, 2500, 2501, 2502, 2503] from fr_rf) ((frp_rf : frp p p [2504]) 8 (by decide)) hY71 (by decide) (by decide)) (by omega), (by rw [show mk = 248 by omega]; exact sec_mn hn72)⟩)
      have FK73 : fk p c n p c63 [18, 19, 2504] := fk_tr (fk_rf hD) kf66 (by decide)
      show tt Zi d 79 (33, [some (.inr (.inl 17)), some (.inl mk), some (.inr (.inl 25))], [], n, D, s62, p, c63) _
      replace k67 : okM A ((s 2001)) := k67
      replace k68 : (s62 2001) = (s 2001) + 13 := k68
      replace k69 : (s62 2001) ≤ (s 601) := k69
      have b74 : 0 ≤ (s62 2001) ∧ (s62 2001) ≤ 100000 := hS62 2001
      have e75 : s62 1705 = (s 1705) := (f65 1705 (by decide))
      have b76 : 0 ≤ (s62 1705) ∧ (s62 1705) ≤ 1 := hS62 1705
      have e77 : s62 1706 = (s 1706) := (f65 1706 (by decide))
      have b78 : 0 ≤ (s62 1706) ∧ (s62 1706) ≤ 3 := hS62 1706
      have b79 : 0 ≤ (s 1706) ∧ (s 1706) ≤ 3 := hS 1706
      have e80 : s62 2500 = (s 2500) := (f65 2500 (by decide))
      have b81 : 0 ≤ (s62 2500) ∧ (s62 2500) ≤ 64 := hS62 2500
      have b82 : 0 ≤ (s 2500) ∧ (s 2500) ≤ 64 := hS 2500
      have e83 : s62 2502 = (s 2502) := (f65 2502 (by decide))
      have b84 : 0 ≤ (s62 2502) ∧ (s62 2502) ≤ 3 := hS62 2502
      have b85 : 0 ≤ (s 2502) ∧ (s 2502) ≤ 3 := hS 2502
      have e86 : s62 2503 = (s 2503) := (f65 2503 (by decide))
      have b87 : 0 ≤ (s62 2503) ∧ (s62 2503) ≤ 16 := hS62 2503
      have b88 : 0 ≤ (s 2503) ∧ (s 2503) ≤ 16 := hS 2503
      have e89 : s62 601 = (s 601) := (f65 601 (by decide))
      have b90 : 0 ≤ (s62 601) ∧ (s62 601) ≤ 32768 := hS62 601
      have hx91 : tpl A (s62 601) (c63 (p 600)) := by rw [f65 601 (by decide), fk_k (k := 600) kf66 (by decide)]; exact hp0
      refine tt_k 1 (S' := (68, [some (.inr (.inl 17)), some (.inl mk), some (.inr (.inl 25))], [], n, D, s62, p, c63)) rfl ?_
      obtain ⟨h1, h2⟩ := rwS_m hp1 k67 k70
      exact tt_rtv rfl rfl (Or.inl ⟨n, D, s62, p, c63, rfl, rfl, hS62, hC63, hW64, (fr_tr fr_rf f65 (by decide)), frp_rf, ext_rf, FK73, ⟨(s 2001 + 13, S.2.1, S.2.2.1, S.2.2.2.1, qM A (s 2001), S.2.2.2.2.2), by rw [show mk = 248 by omega]; exact h1, k68, rfl, (by rw [f65 1705 (by decide), f65 1706 (by decide), f65 2500 (by decide), f65 2501 (by decide), f65 2502 (by decide), f65 2503 (by decide), fk_c (k := 19) kf66 (by decide), fk_k (k := 2504) kf66 (by decide)]; exact h2)⟩, by show s 2001 ≤ (s62 2001); omega⟩)
  · show tt Zi d 79 (7, [some (.inr (.inl 17)), some (.inl mk), some (.inr (.inl 25))], [], n, D, s, p, c) _
    refine tt_k 2 (S' := (11, [some (.inr (.inl 17)), some (.inl mk), some (.inr (.inl 25))], [.inl (s 1705)], n, D, s, p, c)) rfl ?_
    refine tz_ne (x := (s 1705)) rfl rfl (by omega) (fun h92 => ?_) (fun h92 => ?_)
    · show tt Zi d 79 (22, [some (.inr (.inl 17)), some (.inl mk), some (.inr (.inl 25))], [], n, D, s, p, c) _
      refine tt_k 2 (S' := (26, [some (.inr (.inl 17)), some (.inl mk), some (.inr (.inl 25))], [.inl 248, .inl mk], n, D, s, p, c)) rfl ?_
      refine tb_ne (x := mk) (y := 248) rfl rfl (by omega) (fun h93 => ?_) (fun h93 => ?_)
      · show tt Zi d 79 (36, [some (.inr (.inl 17)), some (.inl mk), some (.inr (.inl 25))], [], n, D, s, p, c) _
        refine tt_k 2 (S' := (40, [some (.inr (.inl 17)), some (.inl mk), some (.inr (.inl 25))], [.inl 224, .inl mk], n, D, s, p, c)) rfl ?_
        refine tb_lt (x := mk) (y := 224) rfl rfl (by omega) (fun h94 => ?_) (fun h94 => ?_)
        · exfalso; omega
        · show tt Zi d 79 (43, [some (.inr (.inl 17)), some (.inl mk), some (.inr (.inl 25))], [], n, D, s, p, c) _
          refine tt_k 2 (S' := (47, [some (.inr (.inl 17)), some (.inl mk), some (.inr (.inl 25))], [.inl 239, .inl mk], n, D, s, p, c)) rfl ?_
          refine tb_le (x := mk) (y := 239) rfl rfl (by omega) (fun h95 => ?_) (fun h95 => ?_)
          · exfalso; omega
          · show tt Zi d 79 (50, [some (.inr (.inl 17)), some (.inl mk), some (.inr (.inl 25))], [], n, D, s, p, c) _
            refine tt_k 2 (S' := (54, [some (.inr (.inl 17)), some (.inl mk), some (.inr (.inl 25))], [.inl 254, .inl mk], n, D, s, p, c)) rfl ?_
            refine tb_ne (x := mk) (y := 254) rfl rfl (by omega) (fun h96 => ?_) (fun h96 => ?_)
            · show tt Zi d 79 (64, [some (.inr (.inl 17)), some (.inl mk), some (.inr (.inl 25))], [], n, D, s, p, c) _
              refine tt_k 1 (S' := (65, [some (.inr (.inl 17)), some (.inl mk), some (.inr (.inl 25))], [.inr (.inl 17)], n, D, s, p, c)) rfl ?_
              refine tt_cl (by omega) rfl (e_refuseMark (Zi := Zi) (q := q) (n := n) (D := D) (s := s) (p := p) (c := c) (by omega) hz (by omega) hD hS hC hW ) ?_
              rintro _ H1 (hF | ⟨rfl, hY97⟩)
              · exact hF.elim
              · exact tt_ax rfl (Or.inr ⟨rfl, cXp_mono (cXp_tr (fk_rf hD) (show fr s s [800, 801, 802, 803, 804, 805, 806, 807, 808, 809, 902, 1705, 1706, 2001, 2002, 2003, 2004, 2005, 2006, 2106, 2107, 2108, 2109, 2110, 2111, 2112, 2113, 2114, 2115, 2116, 2500, 2501, 2502, 2503] from fr_rf) ((frp_rf : frp p p [2504]) 8 (by decide)) hY97 (by decide) (by decide)) (by omega), (if hm7 : mk = 247 then (by rw [hm7]; exact sec_fn (fun q => rwS_1 hp1 (by omega) q.1)) else (by exact sec_x ⟨hm7, by omega, hp2⟩ (by omega)))⟩)
            · exfalso; omega
      · exfalso; omega
    · show tt Zi d 79 (14, [some (.inr (.inl 17)), some (.inl mk), some (.inr (.inl 25))], [], n, D, s, p, c) _
      refine tt_k 2 (S' := (16, [some (.inr (.inl 17)), some (.inl mk), some (.inr (.inl 25))], [.inr (.inl 25), .inr (.inl 17)], n, D, s, p, c)) rfl ?_
      refine tt_cl (by omega) rfl (e_readFrame25 (Zi := Zi) (q := q) (n := n) (D := D) (s := s) (p := p) (c := c) (by omega) hz (by omega) hD hS hC hW A hp0) ?_
      rintro _ H1 (⟨n98, D99, s100, p101, c102, rfl, rfl, hS100, hC102, hW103, f104, g105, xe106, kf107, k108, k109, k110, k111, k112, k113⟩ | ⟨rfl, hY114, hn115⟩)
      rotate_left
      · exact tt_ax rfl (Or.inr ⟨rfl, cXp_mono (cXp_tr (fk_rf hD) (show fr s s [800, 801, 802, 803, 804, 805, 806, 807, 808, 809, 902, 1705, 1706, 2001, 2002, 2003, 2004, 2005, 2006, 2106, 2107, 2108, 2109, 2110, 2111, 2112, 2113, 2114, 2115, 2116, 2500, 2501, 2502, 2503] from fr_rf) ((frp_rf : frp p p [2504]) 8 (by decide)) hY114 (by decide) (by decide)) (by omega), (by rw [show mk = 247 by omega]; exact sec_fn (fun q => hn115 q.2))⟩)
      have FK116 : fk p c n98 p101 c102 [18, 19, 2504] := fk_tr (fk_rf hD) kf107 (by decide)
      show tt Zi d 79 (19, [some (.inr (.inl 17)), some (.inl mk), some (.inr (.inl 25))], [], n98, D99, s100, p101, c102) _
      replace k108 : okF A ((s 2001)) := k108
      replace k109 : (s100 2001) = (s 2001) + 8 + 3 * qP A ((s 2001)) := k109
      replace k110 : (s100 2001) ≤ (s 601) := k110
      replace k111 : ((s100 2500) = qW A ((s 2001)) ∧ (s100 2501) = qH A ((s 2001))) ∧ ((s100 2502) = qP A ((s 2001)) ∧ (s100 2503) = qD A ((s 2001))) := k111
      replace k112 : (s100 1705) = 1 ∧ (s100 1706) = qP A ((s 2001)) := k112
      have b117 : 0 ≤ (s100 2001) ∧ (s100 2001) ≤ 100000 := hS100 2001
      have b118 : 0 ≤ (s100 2500) ∧ (s100 2500) ≤ 64 := hS100 2500
      have b119 : 0 ≤ (s100 2501) ∧ (s100 2501) ≤ 64 := hS100 2501
      have b120 : 0 ≤ (s100 2502) ∧ (s100 2502) ≤ 3 := hS100 2502
      have b121 : 0 ≤ (s100 2503) ∧ (s100 2503) ≤ 16 := hS100 2503
      have b122 : 0 ≤ (s100 1705) ∧ (s100 1705) ≤ 1 := hS100 1705
      have b123 : 0 ≤ (s100 1706) ∧ (s100 1706) ≤ 3 := hS100 1706
      have e124 : s100 601 = (s 601) := (f104 601 (by decide))
      have b125 : 0 ≤ (s100 601) ∧ (s100 601) ≤ 32768 := hS100 601
      have hx126 : tpl A (s100 601) (c102 (p101 600)) := by rw [f104 601 (by decide), fk_k (k := 600) kf107 (by decide)]; exact hp0
      refine tt_k 1 (S' := (68, [some (.inr (.inl 17)), some (.inl mk), some (.inr (.inl 25))], [], n98, D99, s100, p101, c102)) rfl ?_
      obtain ⟨h1, h2⟩ := rwS_f (fs2 := c102 (p101 2504)) hp1 (by omega) k108 k111.1.1 k111.1.2 k111.2.1 k111.2.2 k112.1 k112.2 k113 (fk_c (k := 18) kf107 (by decide))
      obtain ⟨o1, o2, o3, o4, o5, o6, o7⟩ := k108
      exact tt_rtv rfl rfl (Or.inl ⟨n98, D99, s100, p101, c102, rfl, rfl, hS100, hC102, hW103, (fr_tr fr_rf f104 (by decide)), (frp_tr frp_rf g105 (by decide)), (ext_tr ext_rf xe106), FK116, ⟨(s 2001 + 8 + 3 * qP A (s 2001), (qW A (s 2001), qH A (s 2001), qP A (s 2001), qD A (s 2001)), S.2.2.1, s 2001, S.2.2.2.2), by rw [show mk = 247 by omega]; exact h1, k109, rfl, h2⟩, by show s 2001 ≤ (s100 2001); omega⟩)
set_option maxRecDepth 100000 in
set_option maxHeartbeats 4000000 in
theorem e_readRow25_L52 {g : Nat → Int} {Zi : Nat → Option (Nat × (Nat → Int))} {d n q : Nat} {D : Nat → Nat × Nat} {s : Nat → Int} {p : Nat → Nat} {c : Nat → Nat → Int}  {Q : mi_Rs → mi_H → Prop} (hd : 9 ≤ d) (hz : zk Zi) (hq : q + 18 ≤ 400001) (hD : wd n p) (hS : bS s) (hC : bC D c) (hW : wp q g n D p s) (A : TN) (R : Option SR × MT) (hq0 : tpl A (s 601) (c (p 600))) (hX12 : ∀ H, cXp (q + 1) g s p c [18, 19, 900, 901, 2103, 2104, 2504] [800, 801, 802, 803, 804, 805, 806, 807, 808, 809, 902, 1705, 1706, 2001, 2002, 2003, 2004, 2005, 2006, 2106, 2107, 2108, 2109, 2110, 2111, 2112, 2113, 2114, 2115, 2116, 2500, 2501, 2502, 2503] H → (∃ K, R = (none, K) ∧ mrk K (H.2.2.2.2 (H.2.2.2.1 900))) → Q (.inr 12) H)
  (hK : ∀ (mk : Int) (i : Int) (n0 : Nat) (D0 : Nat → Nat × Nat) (s0 : Nat → Int) (p0 : Nat → Nat) (c0 : Nat → Nat → Int) (b_mk : 0 ≤ mk ∧ mk ≤ 255) (b_i : 0 ≤ i ∧ i ≤ 32768) (hS0 : bS s0) (hF0 : fr s s0 [800, 801, 802, 803, 804, 805, 806, 807, 808, 809, 902, 1705, 1706, 2001, 2002, 2003, 2004, 2106, 2107, 2108, 2109, 2110, 2111, 2112, 2113, 2114, 2115, 2116, 2500, 2501, 2502, 2503]) (hC0 : bC D0 c0) (hW0 : wp q g n0 D0 p0 s0) (hP0 : frp p p0 [900, 901, 2103, 2104, 2105, 2504]) (hE0 : ext n D n0 D0) (hK0 : fk p c n0 p0 c0 [18, 19, 900, 901, 2103, 2104, 2504]) (i0 : i + 4 ≤ s0 2001 ∧ s0 2001 ≤ s 601) (i1 : rwI A R mk (s0 2001) (s0 1705) (s0 1706) (s0 2500) (s0 2501) (s0 2502) (s0 2503) (c0 19) (c0 18) (c0 (p0 2504)) (c0 (p0 900))), (mk = 217) → tt Zi d 16 (141, [some (.inr (.inl 17)), some (.inr (.inl 25)), some (.inl mk), some (.inl i)], [], n0, D0, s0, p0, c0) Q) :
  ∀ (m : Nat) (mk : Int) (i : Int) (n0 : Nat) (D0 : Nat → Nat × Nat) (s0 : Nat → Int) (p0 : Nat → Nat) (c0 : Nat → Nat → Int) (b_mk : 0 ≤ mk ∧ mk ≤ 255) (b_i : 0 ≤ i ∧ i ≤ 32768) (hS0 : bS s0) (hF0 : fr s s0 [800, 801, 802, 803, 804, 805, 806, 807, 808, 809, 902, 1705, 1706, 2001, 2002, 2003, 2004, 2106, 2107, 2108, 2109, 2110, 2111, 2112, 2113, 2114, 2115, 2116, 2500, 2501, 2502, 2503]) (hC0 : bC D0 c0) (hW0 : wp q g n0 D0 p0 s0) (hP0 : frp p p0 [900, 901, 2103, 2104, 2105, 2504]) (hE0 : ext n D n0 D0) (hK0 : fk p c n0 p0 c0 [18, 19, 900, 901, 2103, 2104, 2504]) (i0 : i + 4 ≤ s0 2001 ∧ s0 2001 ≤ s 601) (i1 : rwI A R mk (s0 2001) (s0 1705) (s0 1706) (s0 2500) (s0 2501) (s0 2502) (s0 2503) (c0 19) (c0 18) (c0 (p0 2504)) (c0 (p0 900))), (32768 - i).toNat < m → tt Zi d 16 (52, [some (.inr (.inl 17)), some (.inr (.inl 25)), some (.inl mk), some (.inl i)], [], n0, D0, s0, p0, c0) Q := by
  intro m
  induction m with
  | zero => intro mk i n0 D0 s0 p0 c0 b_mk b_i hS0 hF0 hC0 hW0 hP0 hE0 hK0 i0 i1 hm; exact absurd hm (by omega)
  | succ m ih =>
    intro mk i n0 D0 s0 p0 c0 b_mk b_i hS0 hF0 hC0 hW0 hP0 hE0 hK0 i0 i1 hm
    have e1 : s0 601 = s 601 := hF0 601 (by decide)
    have b2 : 0 ≤ (s0 601) ∧ (s0 601) ≤ 32768 := hS0 601
    have b3 : 0 ≤ (s 601) ∧ (s 601) ≤ 32768 := hS 601
    have b4 : 0 ≤ (s0 1705) ∧ (s0 1705) ≤ 1 := hS0 1705
    have b5 : 0 ≤ (s0 1706) ∧ (s0 1706) ≤ 3 := hS0 1706
    have b6 : 0 ≤ (s0 2500) ∧ (s0 2500) ≤ 64 := hS0 2500
    have b7 : 0 ≤ (s0 2501) ∧ (s0 2501) ≤ 64 := hS0 2501
    have b8 : 0 ≤ (s0 2502) ∧ (s0 2502) ≤ 3 := hS0 2502
    have b9 : 0 ≤ (s0 2503) ∧ (s0 2503) ≤ 16 := hS0 2503
    have b10 : 0 ≤ (s0 2001) ∧ (s0 2001) ≤ 100000 := hS0 2001
    obtain ⟨n_, S, hfu, hsec, hrw, hmk⟩ := i1
    have htp : tpl A (s0 601) (c0 (p0 600)) := by rw [hF0 601 (by decide), fk_k (k := 600) hK0 (by decide)]; exact hq0
    have hA := hq0.1
    have hri := rwS_ri hrw
    refine tt_k 2 (S' := (55, [some (.inr (.inl 17)), some (.inr (.inl 25)), some (.inl mk), some (.inl i)], [.inl 32768, .inl i], n0, D0, s0, p0, c0)) rfl ?_
    refine tb_ge (x := i) (y := 32768) rfl rfl (by omega) (fun h11 => ?_) (fun h11 => ?_)
    · show tt Zi d 16 (141, [some (.inr (.inl 17)), some (.inr (.inl 25)), some (.inl mk), some (.inl i)], [], n0, D0, s0, p0, c0) _
      exact hK mk i n0 D0 s0 p0 c0 (by omega) (by omega) hS0 hF0 hC0 hW0 hP0 hE0 hK0 (show i + 4 ≤ (s0 2001) ∧ (s0 2001) ≤ s 601 by omega) ⟨n_, S, hfu, hsec, hrw, hmk⟩ (by omega)
    · show tt Zi d 16 (58, [some (.inr (.inl 17)), some (.inr (.inl 25)), some (.inl mk), some (.inl i)], [], n0, D0, s0, p0, c0) _
      refine tt_k 2 (S' := (62, [some (.inr (.inl 17)), some (.inr (.inl 25)), some (.inl mk), some (.inl i)], [.inl 217, .inl mk], n0, D0, s0, p0, c0)) rfl ?_
      refine tb_eq (x := mk) (y := 217) rfl rfl (by omega) (fun h12 => ?_) (fun h12 => ?_)
      · show tt Zi d 16 (141, [some (.inr (.inl 17)), some (.inr (.inl 25)), some (.inl mk), some (.inl i)], [], n0, D0, s0, p0, c0) _
        exact hK mk i n0 D0 s0 p0 c0 (by omega) (by omega) hS0 hF0 hC0 hW0 hP0 hE0 hK0 (show i + 4 ≤ (s0 2001) ∧ (s0 2001) ≤ s 601 by omega) ⟨n_, S, hfu, hsec, hrw, hmk⟩ (by omega)
      · show tt Zi d 16 (65, [some (.inr (.inl 17)), some (.inr (.inl 25)), some (.inl mk), some (.inl i)], [], n0, D0, s0, p0, c0) _
        refine tt_k 2 (S' := (69, [some (.inr (.inl 17)), some (.inr (.inl 25)), some (.inl mk), some (.inl i)], [.inl 218, .inl mk], n0, D0, s0, p0, c0)) rfl ?_
        refine tb_ne (x := mk) (y := 218) rfl rfl (by omega) (fun h13 => ?_) (fun h13 => ?_)
        · show tt Zi d 16 (121, [some (.inr (.inl 17)), some (.inr (.inl 25)), some (.inl mk), some (.inl i)], [], n0, D0, s0, p0, c0) _
          refine tt_k 3 (S' := (124, [some (.inr (.inl 17)), some (.inr (.inl 25)), some (.inl mk), some (.inl i)], [.inr (.inl 25), .inl mk, .inr (.inl 17)], n0, D0, s0, p0, c0)) rfl ?_
          refine tt_cl (by omega) rfl (e_readOther25 (Zi := Zi) (q := q) (n := n0) (D := D0) (s := s0) (p := p0) (c := c0) (by omega) hz (by omega) hK0.1 hS0 hC0 hW0 A S mk (by omega) htp hrw (show mk ≠ 218 by omega)) ?_
          rintro _ H1 (⟨n14, D15, s16, p17, c18, rfl, rfl, hS16, hC18, hW19, f20, g21, xe22, kf23, k24, k25⟩ | ⟨rfl, hY26, hn27⟩)
          rotate_left
          · exact tt_ax rfl (hX12 _ (cXp_mono (cXp_tr hK0 (fr_wk (show fr s s0 [800, 801, 802, 803, 804, 805, 806, 807, 808, 809, 902, 1705, 1706, 2001, 2002, 2003, 2004, 2106, 2107, 2108, 2109, 2110, 2111, 2112, 2113, 2114, 2115, 2116, 2500, 2501, 2502, 2503] from hF0) (by decide)) ((hP0 : frp p p0 [900, 901, 2103, 2104, 2105, 2504]) 8 (by decide)) hY26 (by decide) (by decide)) (by omega)) ⟨_, (by rw [← hsec]; exact secK_n (by omega) hn27), (by rw [fk_k (k := 900) (hY26).1.2.2.2.1 (by decide)]; exact hmk)⟩)
          have FK28 : fk p c n14 p17 c18 [18, 19, 900, 901, 2103, 2104, 2504] := fk_tr hK0 kf23 (by decide)
          show tt Zi d 16 (127, [some (.inr (.inl 17)), some (.inr (.inl 25)), some (.inl mk), some (.inl i)], [], n14, D15, s16, p17, c18) _
          replace k25 : (s0 2001) ≤ (s16 2001) := k25
          have b29 : 0 ≤ (s16 2001) ∧ (s16 2001) ≤ 100000 := hS16 2001
          have b30 : 0 ≤ (s16 1705) ∧ (s16 1705) ≤ 1 := hS16 1705
          have b31 : 0 ≤ (s16 1706) ∧ (s16 1706) ≤ 3 := hS16 1706
          have b32 : 0 ≤ (s16 2500) ∧ (s16 2500) ≤ 64 := hS16 2500
          have b33 : 0 ≤ (s16 2501) ∧ (s16 2501) ≤ 64 := hS16 2501
          have b34 : 0 ≤ (s16 2502) ∧ (s16 2502) ≤ 3 := hS16 2502
          have b35 : 0 ≤ (s16 2503) ∧ (s16 2503) ≤ 16 := hS16 2503
          have e36 : s16 601 = (s0 601) := (f20 601 (by decide))
          have b37 : 0 ≤ (s16 601) ∧ (s16 601) ≤ 32768 := hS16 601
          have e38 : s16 2002 = (s0 2002) := (f20 2002 (by decide))
          have b39 : 0 ≤ (s16 2002) ∧ (s16 2002) ≤ 255 := hS16 2002
          have b40 : 0 ≤ (s0 2002) ∧ (s0 2002) ≤ 255 := hS0 2002
          have e41 : s16 2003 = (s0 2003) := (f20 2003 (by decide))
          have b42 : 0 ≤ (s16 2003) ∧ (s16 2003) ≤ 8 := hS16 2003
          have b43 : 0 ≤ (s0 2003) ∧ (s0 2003) ≤ 8 := hS0 2003
          have hx44 : tpl A (s16 601) (c18 (p17 600)) := by rw [f20 601 (by decide), fk_k (k := 600) kf23 (by decide)]; exact htp
          have hx45 : mrk S.2.2.2.2.2.1 (c18 (p17 900)) := by rw [fk_k (k := 900) kf23 (by decide)]; exact hmk
          obtain ⟨S2, hs2, ha2, hk2, hrw2⟩ := k24
          have hmk2 : mrk S2.2.2.2.2.2.1 (c18 (p17 900)) := by rw [hk2]; exact hx45
          refine tt_k 2 (S' := (131, [some (.inr (.inl 17)), some (.inr (.inl 25)), some (.inl mk), some (.inl i)], [.inr (.inl 20)], n14, D15, s16, p17, c18)) rfl ?_
          refine tt_cl (by omega) rfl (e_readMark (Zi := Zi) (q := q) (n := n14) (D := D15) (s := s16) (p := p17) (c := c18) (by omega) hz (by omega) FK28.1 hS16 hC18 hW19 A hx44) ?_
          rintro _ H1 (⟨s46, r47, rfl, rfl, hS46, hW48, f49, b50, k51, k52, k53, k54⟩ | ⟨rfl, hY55, hn56⟩)
          rotate_left
          · exact tt_ax rfl (hX12 _ (cXp_mono (cXp_tr FK28 (fr_wk (show fr s s16 [800, 801, 802, 803, 804, 805, 806, 807, 808, 809, 902, 1705, 1706, 2001, 2002, 2003, 2004, 2106, 2107, 2108, 2109, 2110, 2111, 2112, 2113, 2114, 2115, 2116, 2500, 2501, 2502, 2503] from (fr_tr hF0 f20 (by decide))) (by decide)) (((frp_tr hP0 g21 (by decide)) : frp p p17 [900, 901, 2103, 2104, 2105, 2504]) 8 (by decide)) hY55 (by decide) (by decide)) (by omega)) ⟨_, (by rw [← hsec, secK_s (by omega) hs2]; exact secs_n (by rw [← ha2]; exact hn56)), (by rw [fk_k (k := 900) (hY55).1.2.2.2.1 (by decide)]; exact hmk2)⟩)
          show tt Zi d 16 (134, [some (.inr (.inl 17)), some (.inr (.inl 25)), some (.inl mk), some (.inl i)], [.inl r47], n14, D15, s46, p17, c18) _
          replace k51 : rdMk A ((s16 2001)) = some (r47, (s46 2001)) := k51
          replace k52 : (s46 2001) ≤ (s16 601) := k52
          replace k53 : (s16 2001) + 2 ≤ (s46 2001) := k53
          replace k54 : r47 ≠ 255 := k54
          have b57 : 0 ≤ (s46 2001) ∧ (s46 2001) ≤ 100000 := hS46 2001
          have e58 : s46 1705 = (s16 1705) := (f49 1705 (by decide))
          have b59 : 0 ≤ (s46 1705) ∧ (s46 1705) ≤ 1 := hS46 1705
          have e60 : s46 1706 = (s16 1706) := (f49 1706 (by decide))
          have b61 : 0 ≤ (s46 1706) ∧ (s46 1706) ≤ 3 := hS46 1706
          have e62 : s46 2500 = (s16 2500) := (f49 2500 (by decide))
          have b63 : 0 ≤ (s46 2500) ∧ (s46 2500) ≤ 64 := hS46 2500
          have e64 : s46 2501 = (s16 2501) := (f49 2501 (by decide))
          have b65 : 0 ≤ (s46 2501) ∧ (s46 2501) ≤ 64 := hS46 2501
          have e66 : s46 2502 = (s16 2502) := (f49 2502 (by decide))
          have b67 : 0 ≤ (s46 2502) ∧ (s46 2502) ≤ 3 := hS46 2502
          have e68 : s46 2503 = (s16 2503) := (f49 2503 (by decide))
          have b69 : 0 ≤ (s46 2503) ∧ (s46 2503) ≤ 16 := hS46 2503
          have e70 : s46 601 = (s16 601) := (f49 601 (by decide))
          have b71 : 0 ≤ (s46 601) ∧ (s46 601) ≤ 32768 := hS46 601
          have e72 : s46 2002 = (s16 2002) := (f49 2002 (by decide))
          have b73 : 0 ≤ (s46 2002) ∧ (s46 2002) ≤ 255 := hS46 2002
          have e74 : s46 2003 = (s16 2003) := (f49 2003 (by decide))
          have b75 : 0 ≤ (s46 2003) ∧ (s46 2003) ≤ 8 := hS46 2003
          have hx76 : tpl A (s46 601) (c18 (p17 600)) := by rw [f49 601 (by decide)]; exact hx44
          refine tt_k 3 (S' := (52, [some (.inr (.inl 17)), some (.inr (.inl 25)), some (.inl r47), some (.inl (i + 1))], [], n14, D15, s46, p17, c18)) rfl ?_
          obtain ⟨n9, rfl⟩ : ∃ n9, n_ = n9 + 1 := ⟨n_ - 1, by omega⟩
          have hsec9 := hsec
          rw [secK_s (by omega) hs2, secs_m (n := n9) (S := S2) (by rw [← ha2]; exact k51)] at hsec9
          exact ih r47 (i + 1) n14 D15 s46 p17 c18 (by omega) (by omega) hS46 (fr_tr (fr_tr hF0 f20 (by decide)) f49 (by decide)) hC18 hW48 (frp_tr hP0 g21 (by decide)) (ext_tr hE0 xe22) FK28 (show (i + 1) + 4 ≤ (s46 2001) ∧ (s46 2001) ≤ s 601 by omega) ⟨n9, S2, (by omega), hsec9, (by rw [show s46 1705 = s16 1705 by omega, show s46 1706 = s16 1706 by omega, show s46 2500 = s16 2500 by omega, show s46 2501 = s16 2501 by omega, show s46 2502 = s16 2502 by omega, show s46 2503 = s16 2503 by omega]; exact hrw2), hmk2⟩ (show (32768 - (i + 1)).toNat < m by omega)
        · show tt Zi d 16 (72, [some (.inr (.inl 17)), some (.inr (.inl 25)), some (.inl mk), some (.inl i)], [], n0, D0, s0, p0, c0) _
          refine tt_k 2 (S' := (74, [some (.inr (.inl 17)), some (.inr (.inl 25)), some (.inl mk), some (.inl i)], [.inr (.inl 25), .inr (.inl 17)], n0, D0, s0, p0, c0)) rfl ?_
          refine tt_cl (by omega) rfl (e_readScan25 (Zi := Zi) (q := q) (n := n0) (D := D0) (s := s0) (p := p0) (c := c0) (by omega) hz (by omega) hK0.1 hS0 hC0 hW0 A htp (show (s0 1705) = 1 → (1 ≤ (s0 2500) ∧ 2 ≤ (s0 2503) ∧ (s0 1706) ≤ (s0 2502)) by omega)) ?_
          rintro _ H1 (⟨s77, rfl, rfl, hS77, hW78, f79, k80, k81, k82, k83, k84⟩ | ⟨rfl, hY85, hn86⟩)
          rotate_left
          · exact tt_ax rfl (hX12 _ (cXp_mono (cXp_tr hK0 (fr_wk (show fr s s0 [800, 801, 802, 803, 804, 805, 806, 807, 808, 809, 902, 1705, 1706, 2001, 2002, 2003, 2004, 2106, 2107, 2108, 2109, 2110, 2111, 2112, 2113, 2114, 2115, 2116, 2500, 2501, 2502, 2503] from hF0) (by decide)) ((hP0 : frp p p0 [900, 901, 2103, 2104, 2105, 2504]) 8 (by decide)) hY85 (by decide) (by decide)) (by omega)) ⟨_, (by rw [← hsec]; exact secK_n (by omega) (by rw [show mk = 218 by omega]; exact rwS_sn hrw hn86)), (by rw [fk_k (k := 900) (hY85).1.2.2.2.1 (by decide)]; exact hmk)⟩)
          show tt Zi d 16 (77, [some (.inr (.inl 17)), some (.inr (.inl 25)), some (.inl mk), some (.inl i)], [], n0, D0, s77, p0, c0) _
          replace k80 : (s0 1705) = 1 ∧ 1 ≤ (s0 1706) := k80
          replace k82 : (s77 2001) = (s0 2001) + 8 ∧ (s77 2001) ≤ (s0 601) := k82
          have b87 : 0 ≤ (s77 2001) ∧ (s77 2001) ≤ 100000 := hS77 2001
          have b88 : 0 ≤ (s77 800) ∧ (s77 800) ≤ 65535 := hS77 800
          have b89 : -2147483648 ≤ (s77 801) ∧ (s77 801) ≤ 2147483647 := hS77 801
          have b90 : -2147483648 ≤ (s77 802) ∧ (s77 802) ≤ 2147483647 := hS77 802
          have b91 : -2147483648 ≤ (s77 803) ∧ (s77 803) ≤ 2147483647 := hS77 803
          have b92 : -2147483648 ≤ (s77 804) ∧ (s77 804) ≤ 2147483647 := hS77 804
          have b93 : 0 ≤ (s77 805) ∧ (s77 805) ≤ 65535 := hS77 805
          have b94 : 1 ≤ (s77 806) ∧ (s77 806) ≤ 511 := hS77 806
          have b95 : 0 ≤ (s77 807) ∧ (s77 807) ≤ 65536 := hS77 807
          have b96 : 0 ≤ (s77 808) ∧ (s77 808) ≤ 30 := hS77 808
          have b97 : 0 ≤ (s77 809) ∧ (s77 809) ≤ 64 := hS77 809
          have e98 : s77 1705 = (s0 1705) := (f79 1705 (by decide))
          have b99 : 0 ≤ (s77 1705) ∧ (s77 1705) ≤ 1 := hS77 1705
          have e100 : s77 1706 = (s0 1706) := (f79 1706 (by decide))
          have b101 : 0 ≤ (s77 1706) ∧ (s77 1706) ≤ 3 := hS77 1706
          have e102 : s77 2500 = (s0 2500) := (f79 2500 (by decide))
          have b103 : 0 ≤ (s77 2500) ∧ (s77 2500) ≤ 64 := hS77 2500
          have e104 : s77 2501 = (s0 2501) := (f79 2501 (by decide))
          have b105 : 0 ≤ (s77 2501) ∧ (s77 2501) ≤ 64 := hS77 2501
          have e106 : s77 2502 = (s0 2502) := (f79 2502 (by decide))
          have b107 : 0 ≤ (s77 2502) ∧ (s77 2502) ≤ 3 := hS77 2502
          have e108 : s77 2503 = (s0 2503) := (f79 2503 (by decide))
          have b109 : 0 ≤ (s77 2503) ∧ (s77 2503) ≤ 16 := hS77 2503
          have e110 : s77 601 = (s0 601) := (f79 601 (by decide))
          have b111 : 0 ≤ (s77 601) ∧ (s77 601) ≤ 32768 := hS77 601
          have e112 : s77 2002 = (s0 2002) := (f79 2002 (by decide))
          have b113 : 0 ≤ (s77 2002) ∧ (s77 2002) ≤ 255 := hS77 2002
          have b114 : 0 ≤ (s0 2002) ∧ (s0 2002) ≤ 255 := hS0 2002
          have e115 : s77 2003 = (s0 2003) := (f79 2003 (by decide))
          have b116 : 0 ≤ (s77 2003) ∧ (s77 2003) ≤ 8 := hS77 2003
          have b117 : 0 ≤ (s0 2003) ∧ (s0 2003) ≤ 8 := hS0 2003
          have hx118 : tpl A (s77 601) (c0 (p0 600)) := by rw [f79 601 (by decide)]; exact htp
          have hok := k81
          have hvm := k83
          have hmv : mv (ZM (c0 18 0) (c0 18 1) (c0 18 2) (c0 18 3) (c0 18 4) (s0 2503) (gB A (s0 2001 + 5))) := VM_mv (hC0 18 0) (by omega) hvm
          refine tt_k 2 (S' := (81, [some (.inr (.inl 17)), some (.inr (.inl 25)), some (.inl mk), some (.inl i)], [.inr (.inl 20)], n0, D0, s77, p0, c0)) rfl ?_
          refine tt_cl (by omega) rfl (e_beginData (Zi := Zi) (q := q) (n := n0) (D := D0) (s := s77) (p := p0) (c := c0) (by omega) hz (by omega) hK0.1 hS77 hC0 hW78 ) ?_
          rintro _ _ ⟨s119, rfl, rfl, hS119, hW120, f121, k122⟩
          show tt Zi d 16 (84, [some (.inr (.inl 17)), some (.inr (.inl 25)), some (.inl mk), some (.inl i)], [], n0, D0, s119, p0, c0) _
          replace k122 : (s119 2002) = 0 ∧ (s119 2003) = 0 := k122
          have b123 : 0 ≤ (s119 2002) ∧ (s119 2002) ≤ 255 := hS119 2002
          have b124 : 0 ≤ (s119 2003) ∧ (s119 2003) ≤ 8 := hS119 2003
          have e125 : s119 1705 = (s77 1705) := (f121 1705 (by decide))
          have b126 : 0 ≤ (s119 1705) ∧ (s119 1705) ≤ 1 := hS119 1705
          have e127 : s119 1706 = (s77 1706) := (f121 1706 (by decide))
          have b128 : 0 ≤ (s119 1706) ∧ (s119 1706) ≤ 3 := hS119 1706
          have e129 : s119 2500 = (s77 2500) := (f121 2500 (by decide))
          have b130 : 0 ≤ (s119 2500) ∧ (s119 2500) ≤ 64 := hS119 2500
          have e131 : s119 2501 = (s77 2501) := (f121 2501 (by decide))
          have b132 : 0 ≤ (s119 2501) ∧ (s119 2501) ≤ 64 := hS119 2501
          have e133 : s119 2502 = (s77 2502) := (f121 2502 (by decide))
          have b134 : 0 ≤ (s119 2502) ∧ (s119 2502) ≤ 3 := hS119 2502
          have e135 : s119 2503 = (s77 2503) := (f121 2503 (by decide))
          have b136 : 0 ≤ (s119 2503) ∧ (s119 2503) ≤ 16 := hS119 2503
          have e137 : s119 601 = (s77 601) := (f121 601 (by decide))
          have b138 : 0 ≤ (s119 601) ∧ (s119 601) ≤ 32768 := hS119 601
          have e139 : s119 2001 = (s77 2001) := (f121 2001 (by decide))
          have b140 : 0 ≤ (s119 2001) ∧ (s119 2001) ≤ 100000 := hS119 2001
          have hx141 : tpl A (s119 601) (c0 (p0 600)) := by rw [f121 601 (by decide)]; exact hx118
          have hx142 : zq (ZM ((c0 18) 0) ((c0 18) 1) ((c0 18) 2) ((c0 18) 3) ((c0 18) 4) ((s0 2503)) (gB A ((s0 2001) + 5))) (s119 800) (s119 801) (s119 802) (s119 803) (s119 804) (s119 805) (s119 806) (s119 807) (s119 808) (s119 809) := by rw [f121 800 (by decide), f121 801 (by decide), f121 802 (by decide), f121 803 (by decide), f121 804 (by decide), f121 805 (by decide), f121 806 (by decide), f121 807 (by decide), f121 808 (by decide), f121 809 (by decide)]; exact k84
          refine tt_k 8 (S' := (98, [some (.inr (.inl 17)), some (.inr (.inl 25)), some (.inl mk), some (.inl i)], [.inl ((s119 2502) - (s119 1706)), .inr (.inl 25), .inr (.inl 21)], n0, D0, s119, p0, c0)) rfl ?_
          have hsm0 : c0 (p0 2504) = c0 (p0 2504) := rfl
          have b143 : 0 ≤ (s119 800) ∧ (s119 800) ≤ 65535 := hS119 800
          have b144 : -2147483648 ≤ (s119 801) ∧ (s119 801) ≤ 2147483647 := hS119 801
          have b145 : -2147483648 ≤ (s119 802) ∧ (s119 802) ≤ 2147483647 := hS119 802
          have b146 : -2147483648 ≤ (s119 803) ∧ (s119 803) ≤ 2147483647 := hS119 803
          have b147 : -2147483648 ≤ (s119 804) ∧ (s119 804) ≤ 2147483647 := hS119 804
          have b148 : 0 ≤ (s119 805) ∧ (s119 805) ≤ 65535 := hS119 805
          have b149 : 1 ≤ (s119 806) ∧ (s119 806) ≤ 511 := hS119 806
          have b150 : 0 ≤ (s119 807) ∧ (s119 807) ≤ 65536 := hS119 807
          have b151 : 0 ≤ (s119 808) ∧ (s119 808) ≤ 30 := hS119 808
          have b152 : 0 ≤ (s119 809) ∧ (s119 809) ≤ 64 := hS119 809
          refine tt_cl (by omega) rfl (u_tellPlane25 (Zi := Zi) (q := q) (n := n0) (D := D0) (s := s119) (p := p0) (c := c0) (by omega) hz (by omega) hK0.1 hS119 hC0 hW120 A (ZM ((c0 18) 0) ((c0 18) 1) ((c0 18) 2) ((c0 18) 3) ((c0 18) 4) ((s0 2503)) (gB A ((s0 2001) + 5))) ((s119 2502) - (s119 1706)) (by omega) hx141 hx142 hmv (show ((s119 2502) - (s119 1706)) < (s119 2502) ∧ 1 ≤ (s119 2500) by omega) (show ((0 ≤ (s119 2003) ∧ (s119 2003) ≤ 8) ∧ (0 ≤ (s119 2002) ∧ (s119 2002) ≤ 255)) ∧ (s119 2001) ≤ (s119 601) by omega)) ?_
          rintro _ H1 (⟨s153, p154, c155, rfl, rfl, hS153, hC155, hW156, f157, g158, kf159, k160, k161, k162⟩ | ⟨rfl, hY163, hn164⟩)
          rotate_left
          · exact tt_ax rfl (hX12 _ (cXp_mono (cXp_tr hK0 (fr_wk (show fr s s119 [800, 801, 802, 803, 804, 805, 806, 807, 808, 809, 902, 1705, 1706, 2001, 2002, 2003, 2004, 2106, 2107, 2108, 2109, 2110, 2111, 2112, 2113, 2114, 2115, 2116, 2500, 2501, 2502, 2503] from (fr_tr (fr_tr hF0 f79 (by decide)) f121 (by decide))) (by decide)) ((hP0 : frp p p0 [900, 901, 2103, 2104, 2105, 2504]) 8 (by decide)) hY163 (by decide) (by decide)) (by omega)) ⟨_, (by rw [← hsec]; exact secK_n (by omega) (by rw [show mk = 218 by omega]; exact rwS_sx hrw (by omega) (by rw [← show s119 2500 = s0 2500 by omega, ← show s119 2501 = s0 2501 by omega, ← show s119 2001 = s0 2001 + 8 by omega]; have h := hn164; rw [show s119 2002 = 0 by omega, show s119 2003 = 0 by omega] at h; exact h))), (by rw [fk_k (k := 900) (hY163).1.2.2.2.1 (by decide)]; exact hmk)⟩)
          have FK165 : fk p c n0 p154 c155 [18, 19, 900, 901, 2103, 2104, 2504] := fk_tr hK0 kf159 (by decide)
          show tt Zi d 16 (101, [some (.inr (.inl 17)), some (.inr (.inl 25)), some (.inl mk), some (.inl i)], [], n0, D0, s153, p154, c155) _
          replace k161 : (0 ≤ (s153 2003) ∧ (s153 2003) ≤ 8) ∧ (0 ≤ (s153 2002) ∧ (s153 2002) ≤ 255) := k161
          replace k162 : (s153 2001) ≤ (s119 601) := k162
          have b166 : 0 ≤ (s153 2001) ∧ (s153 2001) ≤ 100000 := hS153 2001
          have b167 : 0 ≤ (s153 2002) ∧ (s153 2002) ≤ 255 := hS153 2002
          have b168 : 0 ≤ (s153 2003) ∧ (s153 2003) ≤ 8 := hS153 2003
          have e169 : s153 1705 = (s119 1705) := (f157 1705 (by decide))
          have b170 : 0 ≤ (s153 1705) ∧ (s153 1705) ≤ 1 := hS153 1705
          have e171 : s153 1706 = (s119 1706) := (f157 1706 (by decide))
          have b172 : 0 ≤ (s153 1706) ∧ (s153 1706) ≤ 3 := hS153 1706
          have e173 : s153 2500 = (s119 2500) := (f157 2500 (by decide))
          have b174 : 0 ≤ (s153 2500) ∧ (s153 2500) ≤ 64 := hS153 2500
          have e175 : s153 2501 = (s119 2501) := (f157 2501 (by decide))
          have b176 : 0 ≤ (s153 2501) ∧ (s153 2501) ≤ 64 := hS153 2501
          have e177 : s153 2502 = (s119 2502) := (f157 2502 (by decide))
          have b178 : 0 ≤ (s153 2502) ∧ (s153 2502) ≤ 3 := hS153 2502
          have e179 : s153 2503 = (s119 2503) := (f157 2503 (by decide))
          have b180 : 0 ≤ (s153 2503) ∧ (s153 2503) ≤ 16 := hS153 2503
          have e181 : s153 601 = (s119 601) := (f157 601 (by decide))
          have b182 : 0 ≤ (s153 601) ∧ (s153 601) ≤ 32768 := hS153 601
          have hx183 : tpl A (s153 601) (c155 (p154 600)) := by rw [f157 601 (by decide), fk_k (k := 600) kf159 (by decide)]; exact hx141
          have hx184 : zq (ZM ((c0 18) 0) ((c0 18) 1) ((c0 18) 2) ((c0 18) 3) ((c0 18) 4) ((s0 2503)) (gB A ((s0 2001) + 5))) (s153 800) (s153 801) (s153 802) (s153 803) (s153 804) (s153 805) (s153 806) (s153 807) (s153 808) (s153 809) := by rw [f157 800 (by decide), f157 801 (by decide), f157 802 (by decide), f157 803 (by decide), f157 804 (by decide), f157 805 (by decide), f157 806 (by decide), f157 807 (by decide), f157 808 (by decide), f157 809 (by decide)]; exact hx142
          obtain ⟨X, hX, hX1, hXk, hXs, hXo⟩ := k160
          have hX2 : plQ A (ZM (c0 18 0) (c0 18 1) (c0 18 2) (c0 18 3) (c0 18 4) (s0 2503) (gB A (s0 2001 + 5))) (s0 2500) (s0 2501) 5000 0 0 ((s0 2001 + 8, 0, 0), mB ((ZM (c0 18 0) (c0 18 1) (c0 18 2) (c0 18 3) (c0 18 4) (s0 2503) (gB A (s0 2001 + 5))) 3024), 0, fun _ => 0) = some X := by rw [← show s119 2500 = s0 2500 by omega, ← show s119 2501 = s0 2501 by omega, ← show s119 2001 = s0 2001 + 8 by omega]; have h := hX; rw [show s119 2002 = 0 by omega, show s119 2003 = 0 by omega] at h; exact h
          have hmo : s0 2001 + 8 ≤ X.1.1 := plQ_m _ _ _ _ _ hX2
          have e1_ : X.1.1 = s153 2001 := by rw [hX1]
          have e2_ : X.1.2.1 = s153 2002 := by rw [hX1]
          have hpq : (s119 2502) - (s119 1706) = s0 2502 - s0 1706 := by omega
          refine tt_k 2 (S' := (105, [some (.inr (.inl 17)), some (.inr (.inl 25)), some (.inl mk), some (.inl i)], [.inr (.inl 20)], n0, D0, s153, p154, c155)) rfl ?_
          refine tt_cl (by omega) rfl (e_endData (Zi := Zi) (q := q) (n := n0) (D := D0) (s := s153) (p := p154) (c := c155) (by omega) hz (by omega) FK165.1 hS153 hC155 hW156 (show (s153 2001) ≤ 32768 by omega)) ?_
          rintro _ _ ⟨s185, rfl, rfl, hS185, hW186, f187, k188⟩
          show tt Zi d 16 (108, [some (.inr (.inl 17)), some (.inr (.inl 25)), some (.inl mk), some (.inl i)], [], n0, D0, s185, p154, c155) _
          replace k188 : (s185 2001) = if (s153 2002) = 255 then (s153 2001) + 1 else (s153 2001) := k188
          have b189 : 0 ≤ (s185 2001) ∧ (s185 2001) ≤ 100000 := hS185 2001
          have e190 : s185 1705 = (s153 1705) := (f187 1705 (by decide))
          have b191 : 0 ≤ (s185 1705) ∧ (s185 1705) ≤ 1 := hS185 1705
          have e192 : s185 1706 = (s153 1706) := (f187 1706 (by decide))
          have b193 : 0 ≤ (s185 1706) ∧ (s185 1706) ≤ 3 := hS185 1706
          have e194 : s185 2500 = (s153 2500) := (f187 2500 (by decide))
          have b195 : 0 ≤ (s185 2500) ∧ (s185 2500) ≤ 64 := hS185 2500
          have e196 : s185 2501 = (s153 2501) := (f187 2501 (by decide))
          have b197 : 0 ≤ (s185 2501) ∧ (s185 2501) ≤ 64 := hS185 2501
          have e198 : s185 2502 = (s153 2502) := (f187 2502 (by decide))
          have b199 : 0 ≤ (s185 2502) ∧ (s185 2502) ≤ 3 := hS185 2502
          have e200 : s185 2503 = (s153 2503) := (f187 2503 (by decide))
          have b201 : 0 ≤ (s185 2503) ∧ (s185 2503) ≤ 16 := hS185 2503
          have e202 : s185 601 = (s153 601) := (f187 601 (by decide))
          have b203 : 0 ≤ (s185 601) ∧ (s185 601) ≤ 32768 := hS185 601
          have e204 : s185 2002 = (s153 2002) := (f187 2002 (by decide))
          have b205 : 0 ≤ (s185 2002) ∧ (s185 2002) ≤ 255 := hS185 2002
          have e206 : s185 2003 = (s153 2003) := (f187 2003 (by decide))
          have b207 : 0 ≤ (s185 2003) ∧ (s185 2003) ≤ 8 := hS185 2003
          have hx208 : tpl A (s185 601) (c155 (p154 600)) := by rw [f187 601 (by decide)]; exact hx183
          have hx209 : zq (ZM ((c0 18) 0) ((c0 18) 1) ((c0 18) 2) ((c0 18) 3) ((c0 18) 4) ((s0 2503)) (gB A ((s0 2001) + 5))) (s185 800) (s185 801) (s185 802) (s185 803) (s185 804) (s185 805) (s185 806) (s185 807) (s185 808) (s185 809) := by rw [f187 800 (by decide), f187 801 (by decide), f187 802 (by decide), f187 803 (by decide), f187 804 (by decide), f187 805 (by decide), f187 806 (by decide), f187 807 (by decide), f187 808 (by decide), f187 809 (by decide)]; exact hx184
          have hed : s185 2001 = (if X.1.2.1 = 255 then X.1.1 + 1 else X.1.1) := by rw [e1_, e2_]; exact k188
          refine tt_k 9 (S' := (131, [some (.inr (.inl 17)), some (.inr (.inl 25)), some (.inl mk), some (.inl i)], [.inr (.inl 20)], n0, D0, (us s185 1706 ((s185 1706) - 1)), p154, c155)) rfl ?_
          obtain ⟨hs2, hrw2⟩ := rwS_s (X := X) hrw (by omega) (by omega) hok hvm hX2 (by rw [← hpq, ← show s119 2501 = s0 2501 by omega, ← show s119 2500 = s0 2500 by omega]; exact hXs) (by rw [← hpq, ← show s119 2501 = s0 2501 by omega, ← show s119 2500 = s0 2500 by omega, ← hsm0]; exact hXo)
          have ha2 : s185 2001 = (scN S X).1 := hed
          refine tt_cl (by omega) rfl (e_readMark (Zi := Zi) (q := q) (n := n0) (D := D0) (s := (us s185 1706 ((s185 1706) - 1))) (p := p154) (c := c155) (by omega) hz (by omega) FK165.1 (bS_us hS185 (show 0 ≤ ((s185 1706) - 1) ∧ ((s185 1706) - 1) ≤ 3 by omega)) hC155 (wp_us (by decide) hW186) A hx208) ?_
          rintro _ H1 (⟨s210, r211, rfl, rfl, hS210, hW212, f213, b214, k215, k216, k217, k218⟩ | ⟨rfl, hY219, hn220⟩)
          rotate_left
          · exact tt_ax rfl (hX12 _ (cXp_mono (cXp_tr FK165 (fr_wk (show fr s (us s185 1706 ((s185 1706) - 1)) [800, 801, 802, 803, 804, 805, 806, 807, 808, 809, 902, 1705, 1706, 2001, 2002, 2003, 2004, 2106, 2107, 2108, 2109, 2110, 2111, 2112, 2113, 2114, 2115, 2116, 2500, 2501, 2502, 2503] from (fr_us (by decide) (fr_tr (fr_tr (fr_tr (fr_tr hF0 f79 (by decide)) f121 (by decide)) f157 (by decide)) f187 (by decide)))) (by decide)) (((frp_tr hP0 g158 (by decide)) : frp p p154 [900, 901, 2103, 2104, 2105, 2504]) 8 (by decide)) hY219 (by decide) (by decide)) (by omega)) ⟨_, (by rw [← hsec, secK_s (by omega) (by rw [show mk = 218 by omega]; exact hs2)]; exact secs_n (by rw [← ha2]; exact hn220)), (by rw [fk_k (k := 900) (hY219).1.2.2.2.1 (by decide)]; exact hXk)⟩)
          show tt Zi d 16 (134, [some (.inr (.inl 17)), some (.inr (.inl 25)), some (.inl mk), some (.inl i)], [.inl r211], n0, D0, s210, p154, c155) _
          replace k215 : rdMk A ((s185 2001)) = some (r211, (s210 2001)) := k215
          replace k216 : (s210 2001) ≤ (s185 601) := k216
          replace k217 : (s185 2001) + 2 ≤ (s210 2001) := k217
          replace k218 : r211 ≠ 255 := k218
          have b221 : 0 ≤ (s210 2001) ∧ (s210 2001) ≤ 100000 := hS210 2001
          have e222 : s210 1705 = (s185 1705) := (f213 1705 (by decide))
          have b223 : 0 ≤ (s210 1705) ∧ (s210 1705) ≤ 1 := hS210 1705
          have e224 : s210 1706 = ((s185 1706) - 1) := (f213 1706 (by decide))
          have b225 : 0 ≤ (s210 1706) ∧ (s210 1706) ≤ 3 := hS210 1706
          have e226 : s210 2500 = (s185 2500) := (f213 2500 (by decide))
          have b227 : 0 ≤ (s210 2500) ∧ (s210 2500) ≤ 64 := hS210 2500
          have e228 : s210 2501 = (s185 2501) := (f213 2501 (by decide))
          have b229 : 0 ≤ (s210 2501) ∧ (s210 2501) ≤ 64 := hS210 2501
          have e230 : s210 2502 = (s185 2502) := (f213 2502 (by decide))
          have b231 : 0 ≤ (s210 2502) ∧ (s210 2502) ≤ 3 := hS210 2502
          have e232 : s210 2503 = (s185 2503) := (f213 2503 (by decide))
          have b233 : 0 ≤ (s210 2503) ∧ (s210 2503) ≤ 16 := hS210 2503
          have e234 : s210 601 = (s185 601) := (f213 601 (by decide))
          have b235 : 0 ≤ (s210 601) ∧ (s210 601) ≤ 32768 := hS210 601
          have e236 : s210 2002 = (s185 2002) := (f213 2002 (by decide))
          have b237 : 0 ≤ (s210 2002) ∧ (s210 2002) ≤ 255 := hS210 2002
          have e238 : s210 2003 = (s185 2003) := (f213 2003 (by decide))
          have b239 : 0 ≤ (s210 2003) ∧ (s210 2003) ≤ 8 := hS210 2003
          have hx240 : tpl A (s210 601) (c155 (p154 600)) := by rw [f213 601 (by decide)]; exact hx208
          have hx241 : zq (ZM ((c0 18) 0) ((c0 18) 1) ((c0 18) 2) ((c0 18) 3) ((c0 18) 4) ((s0 2503)) (gB A ((s0 2001) + 5))) (s210 800) (s210 801) (s210 802) (s210 803) (s210 804) (s210 805) (s210 806) (s210 807) (s210 808) (s210 809) := by rw [f213 800 (by decide), f213 801 (by decide), f213 802 (by decide), f213 803 (by decide), f213 804 (by decide), f213 805 (by decide), f213 806 (by decide), f213 807 (by decide), f213 808 (by decide), f213 809 (by decide)]; exact hx209
          refine tt_k 3 (S' := (52, [some (.inr (.inl 17)), some (.inr (.inl 25)), some (.inl r211), some (.inl (i + 1))], [], n0, D0, s210, p154, c155)) rfl ?_
          obtain ⟨n9, rfl⟩ : ∃ n9, n_ = n9 + 1 := ⟨n_ - 1, by omega⟩
          have hsec9 := hsec
          rw [secK_s (by omega) (by rw [show mk = 218 by omega]; exact hs2), secs_m (n := n9) (S := (scN S X)) (by rw [← ha2]; exact k215)] at hsec9
          exact ih r211 (i + 1) n0 D0 s210 p154 c155 (by omega) (by omega) hS210 (fr_tr (fr_us (by decide) (fr_tr (fr_tr (fr_tr (fr_tr hF0 f79 (by decide)) f121 (by decide)) f157 (by decide)) f187 (by decide))) f213 (by decide)) hC155 hW212 (frp_tr hP0 g158 (by decide)) hE0 FK165 (show (i + 1) + 4 ≤ (s210 2001) ∧ (s210 2001) ≤ s 601 by omega) ⟨n9, (scN S X), (by omega), hsec9, (by rw [show s210 1705 = s0 1705 by omega, show s210 2500 = s0 2500 by omega, show s210 2501 = s0 2501 by omega, show s210 2502 = s0 2502 by omega, show s210 2503 = s0 2503 by omega, fk_c (k := 19) kf159 (by decide), fk_c (k := 18) kf159 (by decide), show s210 1706 = s0 1706 - 1 by omega]; exact hrw2), hXk⟩ (show (32768 - (i + 1)).toNat < m by omega)
set_option maxRecDepth 100000 in
set_option maxHeartbeats 4000000 in
theorem e_readRow25 {g : Nat → Int} {Zi : Nat → Option (Nat × (Nat → Int))} {d n q : Nat} {D : Nat → Nat × Nat} {s : Nat → Int} {p : Nat → Nat} {c : Nat → Nat → Int} (hd : 9 ≤ d) (hz : zk Zi) (hq : q + 18 ≤ 400000) (hD : wd n p) (hS : bS s) (hC : bC D c) (hW : wp q g n D p s) (A : TN) (K0 : MT) (hp0 : tpl A (s 601) (c (p 600))) (hp1 : mrk K0 (c (p 900))) : tt Zi d 16 (0, [some (.inr (.inl 17)), some (.inr (.inl 25)), none, none], [], n, D, s, p, c) (fun R H => (∃ (n' : Nat) (D' : Nat → Nat × Nat) (s' : Nat → Int) (p' : Nat → Nat) (c' : Nat → Nat → Int), R = .inl none ∧ H = (n', D', s', p', c') ∧ bS s' ∧ bC D' c' ∧ wp q g n' D' p' s' ∧ fr s s' [800, 801, 802, 803, 804, 805, 806, 807, 808, 809, 902, 1705, 1706, 2001, 2002, 2003, 2004, 2106, 2107, 2108, 2109, 2110, 2111, 2112, 2113, 2114, 2115, 2116, 2500, 2501, 2502, 2503] ∧ frp p p' [900, 901, 2103, 2104, 2105, 2504] ∧ ext n D n' D' ∧ fk p c n' p' c' [18, 19, 900, 901, 2103, 2104, 2504] ∧ (∃ S, (rowR A K0) = (some S, S.2.2.2.2.2.1) ∧ mrk S.2.2.2.2.2.1 (c' (p' 900)) ∧ rwE (s' 2500) (s' 2501) (s' 2502) (s' 2503) (c' (p' 2504)) S)) ∨ (R = .inr 12 ∧ cXp ((q + 1)) g s p c [18, 19, 900, 901, 2103, 2104, 2504] [800, 801, 802, 803, 804, 805, 806, 807, 808, 809, 902, 1705, 1706, 2001, 2002, 2003, 2004, 2005, 2006, 2106, 2107, 2108, 2109, 2110, 2111, 2112, 2113, 2114, 2115, 2116, 2500, 2501, 2502, 2503] H ∧ (∃ K, (rowR A K0) = (none, K) ∧ mrk K (H.2.2.2.2 (H.2.2.2.1 900))))) := by
  have b1 : 0 ≤ (s 601) ∧ (s 601) ≤ 32768 := hS 601
  have hA := hp0.1
  refine tt_k 2 (S' := (4, [some (.inr (.inl 17)), some (.inr (.inl 25)), none, none], [.inr (.inl 20)], n, D, s, p, c)) rfl ?_
  refine tt_cl (by omega) rfl (g_tbegin (Zi := Zi) (q := q) (n := n) (D := D) (s := s) (p := p) (c := c) (by omega) hz (by omega) hD hS hC hW ) ?_
  rintro _ _ ⟨s2, rfl, rfl, hS2, hW3, f4, k5⟩
  show tt Zi d 16 (7, [some (.inr (.inl 17)), some (.inr (.inl 25)), none, none], [], n, D, s2, p, c) _
  replace k5 : (s2 2001) = 0 := k5
  have b6 : 0 ≤ (s2 2001) ∧ (s2 2001) ≤ 100000 := hS2 2001
  have e7 : s2 1705 = (s 1705) := (f4 1705 (by decide))
  have b8 : 0 ≤ (s2 1705) ∧ (s2 1705) ≤ 1 := hS2 1705
  have b9 : 0 ≤ (s 1705) ∧ (s 1705) ≤ 1 := hS 1705
  have e10 : s2 1706 = (s 1706) := (f4 1706 (by decide))
  have b11 : 0 ≤ (s2 1706) ∧ (s2 1706) ≤ 3 := hS2 1706
  have b12 : 0 ≤ (s 1706) ∧ (s 1706) ≤ 3 := hS 1706
  have e13 : s2 2500 = (s 2500) := (f4 2500 (by decide))
  have b14 : 0 ≤ (s2 2500) ∧ (s2 2500) ≤ 64 := hS2 2500
  have b15 : 0 ≤ (s 2500) ∧ (s 2500) ≤ 64 := hS 2500
  have e16 : s2 2501 = (s 2501) := (f4 2501 (by decide))
  have b17 : 0 ≤ (s2 2501) ∧ (s2 2501) ≤ 64 := hS2 2501
  have b18 : 0 ≤ (s 2501) ∧ (s 2501) ≤ 64 := hS 2501
  have e19 : s2 2502 = (s 2502) := (f4 2502 (by decide))
  have b20 : 0 ≤ (s2 2502) ∧ (s2 2502) ≤ 3 := hS2 2502
  have b21 : 0 ≤ (s 2502) ∧ (s 2502) ≤ 3 := hS 2502
  have e22 : s2 2503 = (s 2503) := (f4 2503 (by decide))
  have b23 : 0 ≤ (s2 2503) ∧ (s2 2503) ≤ 16 := hS2 2503
  have b24 : 0 ≤ (s 2503) ∧ (s 2503) ≤ 16 := hS 2503
  have e25 : s2 601 = (s 601) := (f4 601 (by decide))
  have b26 : 0 ≤ (s2 601) ∧ (s2 601) ≤ 32768 := hS2 601
  have e27 : s2 2002 = (s 2002) := (f4 2002 (by decide))
  have b28 : 0 ≤ (s2 2002) ∧ (s2 2002) ≤ 255 := hS2 2002
  have b29 : 0 ≤ (s 2002) ∧ (s 2002) ≤ 255 := hS 2002
  have e30 : s2 2003 = (s 2003) := (f4 2003 (by decide))
  have b31 : 0 ≤ (s2 2003) ∧ (s2 2003) ≤ 8 := hS2 2003
  have b32 : 0 ≤ (s 2003) ∧ (s 2003) ≤ 8 := hS 2003
  have hx33 : tpl A (s2 601) (c (p 600)) := by rw [f4 601 (by decide)]; exact hp0
  refine tt_k 9 (S' := (22, [some (.inr (.inl 17)), some (.inr (.inl 25)), none, none], [.inl 0, .inr (.inl 18)], n, D, (us (us s2 1705 0) 1706 0), p, c)) rfl ?_
  refine tt_cl (by omega) rfl (g_fill (A := 18) (m := 5) (s := (us (us s2 1705 0) 1706 0)) (p := p) rfl (by omega) (by rw [(show bC_lo D 18 = 0 ∧ bC_hi D 18 = 65535 from ⟨rfl, rfl⟩).1, (show bC_lo D 18 = 0 ∧ bC_hi D 18 = 65535 from ⟨rfl, rfl⟩).2]; decide) hC) ?_
  rintro _ _ ⟨c34, rfl, rfl, hC34, fc34, ec34, zc34⟩
  show tt Zi d 16 (25, [some (.inr (.inl 17)), some (.inr (.inl 25)), none, none], [], n, D, (us (us s2 1705 0) 1706 0), p, c34) _
  have FK35 : fk p c n p c34 [18, 19, 900, 901, 2103, 2104, 2504] := fk_st (k := 18) (fk_rf hD) ec34 (by decide) rfl
  have hx36 : tpl A (s2 601) (c34 (p 600)) := by rw [ec34, uc_ne (show (p 600) ≠ 18 from FK35.1.2 600 (by decide) 18 (by decide) (by decide))]; exact hx33
  have hx37 : mrk K0 (c34 (p 900)) := by rw [ec34, uc_ne (show (p 900) ≠ 18 from FK35.1.2 900 (by decide) 18 (by decide) (by decide))]; exact hp1
  refine tt_k 2 (S' := (29, [some (.inr (.inl 17)), some (.inr (.inl 25)), none, none], [.inr (.inl 20)], n, D, (us (us s2 1705 0) 1706 0), p, c34)) rfl ?_
  refine tt_cl (by omega) rfl (e_readMark (Zi := Zi) (q := q) (n := n) (D := D) (s := (us (us s2 1705 0) 1706 0)) (p := p) (c := c34) (by omega) hz (by omega) FK35.1 (bS_us (bS_us hS2 (show 0 ≤ 0 ∧ 0 ≤ 1 by omega)) (show 0 ≤ 0 ∧ 0 ≤ 3 by omega)) hC34 (wp_us (by decide) (wp_us (by decide) hW3)) A hx36) ?_
  rintro _ H1 (⟨s38, r39, rfl, rfl, hS38, hW40, f41, b42, k43, k44, k45, k46⟩ | ⟨rfl, hY47, hn48⟩)
  rotate_left
  · exact tt_ax rfl (Or.inr ⟨rfl, cXp_mono (cXp_tr FK35 (show fr s (us (us s2 1705 0) 1706 0) [800, 801, 802, 803, 804, 805, 806, 807, 808, 809, 902, 1705, 1706, 2001, 2002, 2003, 2004, 2005, 2006, 2106, 2107, 2108, 2109, 2110, 2111, 2112, 2113, 2114, 2115, 2116, 2500, 2501, 2502, 2503] from (fr_us (by decide) (fr_us (by decide) (fr_tr fr_rf f4 (by decide))))) ((frp_rf : frp p p [900, 901, 2103, 2104, 2105, 2504]) 8 (by decide)) hY47 (by decide) (by decide)) (by omega), ⟨_, (rowR_n (by have h : rdMk A (s2 2001) = none := hn48; rw [show (s2 2001) = 0 by omega] at h; exact h)), (by rw [fk_k (k := 900) (hY47).1.2.2.2.1 (by decide)]; exact hx37)⟩⟩)
  show tt Zi d 16 (32, [some (.inr (.inl 17)), some (.inr (.inl 25)), none, none], [.inl r39], n, D, s38, p, c34) _
  replace k43 : rdMk A ((s2 2001)) = some (r39, (s38 2001)) := k43
  replace k44 : (s38 2001) ≤ (s2 601) := k44
  replace k45 : (s2 2001) + 2 ≤ (s38 2001) := k45
  replace k46 : r39 ≠ 255 := k46
  have b49 : 0 ≤ (s38 2001) ∧ (s38 2001) ≤ 100000 := hS38 2001
  have e50 : s38 1705 = 0 := (f41 1705 (by decide))
  have b51 : 0 ≤ (s38 1705) ∧ (s38 1705) ≤ 1 := hS38 1705
  have e52 : s38 1706 = 0 := (f41 1706 (by decide))
  have b53 : 0 ≤ (s38 1706) ∧ (s38 1706) ≤ 3 := hS38 1706
  have e54 : s38 2500 = (s2 2500) := (f41 2500 (by decide))
  have b55 : 0 ≤ (s38 2500) ∧ (s38 2500) ≤ 64 := hS38 2500
  have e56 : s38 2501 = (s2 2501) := (f41 2501 (by decide))
  have b57 : 0 ≤ (s38 2501) ∧ (s38 2501) ≤ 64 := hS38 2501
  have e58 : s38 2502 = (s2 2502) := (f41 2502 (by decide))
  have b59 : 0 ≤ (s38 2502) ∧ (s38 2502) ≤ 3 := hS38 2502
  have e60 : s38 2503 = (s2 2503) := (f41 2503 (by decide))
  have b61 : 0 ≤ (s38 2503) ∧ (s38 2503) ≤ 16 := hS38 2503
  have e62 : s38 601 = (s2 601) := (f41 601 (by decide))
  have b63 : 0 ≤ (s38 601) ∧ (s38 601) ≤ 32768 := hS38 601
  have e64 : s38 2002 = (s2 2002) := (f41 2002 (by decide))
  have b65 : 0 ≤ (s38 2002) ∧ (s38 2002) ≤ 255 := hS38 2002
  have e66 : s38 2003 = (s2 2003) := (f41 2003 (by decide))
  have b67 : 0 ≤ (s38 2003) ∧ (s38 2003) ≤ 8 := hS38 2003
  have hx68 : tpl A (s38 601) (c34 (p 600)) := by rw [f41 601 (by decide)]; exact hx36
  have hm1 : rdMk A 0 = some (r39, s38 2001) := by have h := k43; rw [show s2 2001 = 0 by omega] at h; exact h
  refine tt_k 1 (S' := (35, [some (.inr (.inl 17)), some (.inr (.inl 25)), none, none], [.inl 216, .inl r39], n, D, s38, p, c34)) rfl ?_
  refine tb_eq (x := r39) (y := 216) rfl rfl (by omega) (fun h69 => ?_) (fun h69 => ?_)
  · show tt Zi d 16 (42, [some (.inr (.inl 17)), some (.inr (.inl 25)), none, none], [], n, D, s38, p, c34) _
    have hr1 := rowR_s (K := K0) (by rw [← show r39 = 216 by omega]; exact hm1)
    refine tt_k 2 (S' := (46, [some (.inr (.inl 17)), some (.inr (.inl 25)), none, none], [.inr (.inl 20)], n, D, s38, p, c34)) rfl ?_
    refine tt_cl (by omega) rfl (e_readMark (Zi := Zi) (q := q) (n := n) (D := D) (s := s38) (p := p) (c := c34) (by omega) hz (by omega) FK35.1 hS38 hC34 hW40 A hx68) ?_
    rintro _ H1 (⟨s70, r71, rfl, rfl, hS70, hW72, f73, b74, k75, k76, k77, k78⟩ | ⟨rfl, hY79, hn80⟩)
    rotate_left
    · exact tt_ax rfl (Or.inr ⟨rfl, cXp_mono (cXp_tr FK35 (show fr s s38 [800, 801, 802, 803, 804, 805, 806, 807, 808, 809, 902, 1705, 1706, 2001, 2002, 2003, 2004, 2005, 2006, 2106, 2107, 2108, 2109, 2110, 2111, 2112, 2113, 2114, 2115, 2116, 2500, 2501, 2502, 2503] from (fr_tr (fr_us (by decide) (fr_us (by decide) (fr_tr fr_rf f4 (by decide)))) f41 (by decide))) ((frp_rf : frp p p [900, 901, 2103, 2104, 2105, 2504]) 8 (by decide)) hY79 (by decide) (by decide)) (by omega), ⟨_, (by rw [hr1]; exact secs_n hn80), (by rw [fk_k (k := 900) (hY79).1.2.2.2.1 (by decide)]; exact hx37)⟩⟩)
    show tt Zi d 16 (49, [some (.inr (.inl 17)), some (.inr (.inl 25)), none, none], [.inl r71], n, D, s70, p, c34) _
    replace k75 : rdMk A ((s38 2001)) = some (r71, (s70 2001)) := k75
    replace k76 : (s70 2001) ≤ (s38 601) := k76
    replace k77 : (s38 2001) + 2 ≤ (s70 2001) := k77
    replace k78 : r71 ≠ 255 := k78
    have b81 : 0 ≤ (s70 2001) ∧ (s70 2001) ≤ 100000 := hS70 2001
    have e82 : s70 1705 = (s38 1705) := (f73 1705 (by decide))
    have b83 : 0 ≤ (s70 1705) ∧ (s70 1705) ≤ 1 := hS70 1705
    have e84 : s70 1706 = (s38 1706) := (f73 1706 (by decide))
    have b85 : 0 ≤ (s70 1706) ∧ (s70 1706) ≤ 3 := hS70 1706
    have e86 : s70 2500 = (s38 2500) := (f73 2500 (by decide))
    have b87 : 0 ≤ (s70 2500) ∧ (s70 2500) ≤ 64 := hS70 2500
    have e88 : s70 2501 = (s38 2501) := (f73 2501 (by decide))
    have b89 : 0 ≤ (s70 2501) ∧ (s70 2501) ≤ 64 := hS70 2501
    have e90 : s70 2502 = (s38 2502) := (f73 2502 (by decide))
    have b91 : 0 ≤ (s70 2502) ∧ (s70 2502) ≤ 3 := hS70 2502
    have e92 : s70 2503 = (s38 2503) := (f73 2503 (by decide))
    have b93 : 0 ≤ (s70 2503) ∧ (s70 2503) ≤ 16 := hS70 2503
    have e94 : s70 601 = (s38 601) := (f73 601 (by decide))
    have b95 : 0 ≤ (s70 601) ∧ (s70 601) ≤ 32768 := hS70 601
    have e96 : s70 2002 = (s38 2002) := (f73 2002 (by decide))
    have b97 : 0 ≤ (s70 2002) ∧ (s70 2002) ≤ 255 := hS70 2002
    have e98 : s70 2003 = (s38 2003) := (f73 2003 (by decide))
    have b99 : 0 ≤ (s70 2003) ∧ (s70 2003) ≤ 8 := hS70 2003
    have hx100 : tpl A (s70 601) (c34 (p 600)) := by rw [f73 601 (by decide)]; exact hx68
    refine tt_k 3 (S' := (52, [some (.inr (.inl 17)), some (.inr (.inl 25)), some (.inl r71), some (.inl 0)], [], n, D, s70, p, c34)) rfl ?_
    have hse := hr1.trans (secs_m (n := 39999) (S := (s38 2001, (0, 0, 0, 0), 0, 0, (fun _ => 0), K0, fun _ _ => 0)) k75)
    have hz18 : ∀ i : Nat, i < 5 → c34 18 i = 0 := fun i hi => by rw [ec34, uc_eq]; exact zc34 i (by omega)
    refine e_readRow25_L52 (Zi := Zi) (q := q) (n := n) (D := D) (s := s70) (p := p) (c := c34) hd hz (by omega) FK35.1 hS70 hC34 hW72 A (rowR A K0)   hx100 (fun H h hq9 => (Or.inr ⟨rfl, cXp_mono (cXp_tr FK35 (show fr s s70 [800, 801, 802, 803, 804, 805, 806, 807, 808, 809, 902, 1705, 1706, 2001, 2002, 2003, 2004, 2005, 2006, 2106, 2107, 2108, 2109, 2110, 2111, 2112, 2113, 2114, 2115, 2116, 2500, 2501, 2502, 2503] from (fr_tr (fr_tr (fr_us (by decide) (fr_us (by decide) (fr_tr fr_rf f4 (by decide)))) f41 (by decide)) f73 (by decide))) ((frp_rf : frp p p [900, 901, 2103, 2104, 2105, 2504]) 8 (by decide)) h (by decide) (by decide)) (by omega), hq9⟩)) ?_ _ r71 0 n D s70 p c34 (by omega) (by omega) hS70 fr_rf hC34 hW72 frp_rf ext_rf (fk_rf FK35.1) (show 0 + 4 ≤ (s70 2001) ∧ (s70 2001) ≤ (s70 601) by omega) ⟨39999, _, by omega, hse.symm, rwS_0 (by omega) hz18, hx37⟩ (Nat.lt_succ_self _)
    intro x101 x102 n103 D104 s105 p106 c107 b108 b109 hS105 f110 hC107 hW111 g112 xe113 kf114 i115 i116 hx117
    show tt Zi d 16 (141, [some (.inr (.inl 17)), some (.inr (.inl 25)), some (.inl x101), some (.inl x102)], [], n103, D104, s105, p106, c107) _
    have FK118 : fk p c n103 p106 c107 [18, 19, 900, 901, 2103, 2104, 2504] := fk_tr FK35 kf114 (by decide)
    replace i115 : x102 + 4 ≤ (s105 2001) ∧ (s105 2001) ≤ (s70 601) := i115
    have b119 : 0 ≤ (s105 2001) ∧ (s105 2001) ≤ 100000 := hS105 2001
    replace hx117 : x101 = 217 := hx117
    have e120 : s105 601 = (s70 601) := (f110 601 (by decide))
    have b121 : 0 ≤ (s105 601) ∧ (s105 601) ≤ 32768 := hS105 601
    have hx122 : tpl A (s105 601) (c107 (p106 600)) := by rw [f110 601 (by decide), fk_k (k := 600) kf114 (by decide)]; exact hx100
    obtain ⟨n_, S, hfu, hsec, hrw, hmk⟩ := i116
    rw [show x101 = 217 by omega] at hsec
    have hri := rwS_ri hrw
    have hrc := rwS_c hrw
    have b123 : 0 ≤ (s105 1705) ∧ (s105 1705) ≤ 1 := hS105 1705
    have b124 : 0 ≤ (s105 1706) ∧ (s105 1706) ≤ 3 := hS105 1706
    have b125 : 0 ≤ (s105 2502) ∧ (s105 2502) ≤ 3 := hS105 2502
    refine tt_k 2 (S' := (145, [some (.inr (.inl 17)), some (.inr (.inl 25)), some (.inl x101), some (.inl x102)], [.inl (s105 1705)], n103, D104, s105, p106, c107)) rfl ?_
    refine tz_eq (x := (s105 1705)) rfl rfl (by omega) (fun h126 => ?_) (fun h126 => ?_)
    · show tt Zi d 16 (155, [some (.inr (.inl 17)), some (.inr (.inl 25)), some (.inl x101), some (.inl x102)], [], n103, D104, s105, p106, c107) _
      refine tt_k 1 (S' := (156, [some (.inr (.inl 17)), some (.inr (.inl 25)), some (.inl x101), some (.inl x102)], [.inr (.inl 17)], n103, D104, s105, p106, c107)) rfl ?_
      refine tt_cl (by omega) rfl (e_refuseMark (Zi := Zi) (q := q) (n := n103) (D := D104) (s := s105) (p := p106) (c := c107) (by omega) hz (by omega) FK118.1 hS105 hC107 hW111 ) ?_
      rintro _ H1 (hF | ⟨rfl, hY127⟩)
      · exact hF.elim
      · exact tt_ax rfl (Or.inr ⟨rfl, cXp_mono (cXp_tr FK118 (show fr s s105 [800, 801, 802, 803, 804, 805, 806, 807, 808, 809, 902, 1705, 1706, 2001, 2002, 2003, 2004, 2005, 2006, 2106, 2107, 2108, 2109, 2110, 2111, 2112, 2113, 2114, 2115, 2116, 2500, 2501, 2502, 2503] from (fr_tr (fr_tr (fr_tr (fr_us (by decide) (fr_us (by decide) (fr_tr fr_rf f4 (by decide)))) f41 (by decide)) f73 (by decide)) f110 (by decide))) (((frp_tr frp_rf g112 (by decide)) : frp p p106 [900, 901, 2103, 2104, 2105, 2504]) 8 (by decide)) hY127 (by decide) (by decide)) (by omega), ⟨_, (by rw [← hsec]; exact secK_x (by omega)), (by rw [fk_k (k := 900) (hY127).1.2.2.2.1 (by decide)]; exact hmk)⟩⟩)
    · show tt Zi d 16 (148, [some (.inr (.inl 17)), some (.inr (.inl 25)), some (.inl x101), some (.inl x102)], [], n103, D104, s105, p106, c107) _
      refine tt_k 2 (S' := (152, [some (.inr (.inl 17)), some (.inr (.inl 25)), some (.inl x101), some (.inl x102)], [.inl (s105 1706)], n103, D104, s105, p106, c107)) rfl ?_
      refine tz_le (x := (s105 1706)) rfl rfl (by omega) (fun h128 => ?_) (fun h128 => ?_)
      · show tt Zi d 16 (159, [some (.inr (.inl 17)), some (.inr (.inl 25)), some (.inl x101), some (.inl x102)], [], n103, D104, s105, p106, c107) _
        refine tt_k 2 (S' := (163, [some (.inr (.inl 17)), some (.inr (.inl 25)), some (.inl x101), some (.inl x102)], [.inr (.inl 20)], n103, D104, s105, p106, c107)) rfl ?_
        refine tt_cl (by omega) rfl (e_checkAll (Zi := Zi) (q := q) (n := n103) (D := D104) (s := s105) (p := p106) (c := c107) (by omega) hz (by omega) FK118.1 hS105 hC107 hW111 ) ?_
        rintro _ H1 (⟨rfl, rfl, k129⟩ | ⟨rfl, hY130, hn131⟩)
        rotate_left
        · exact tt_ax rfl (Or.inr ⟨rfl, cXp_mono (cXp_tr FK118 (show fr s s105 [800, 801, 802, 803, 804, 805, 806, 807, 808, 809, 902, 1705, 1706, 2001, 2002, 2003, 2004, 2005, 2006, 2106, 2107, 2108, 2109, 2110, 2111, 2112, 2113, 2114, 2115, 2116, 2500, 2501, 2502, 2503] from (fr_tr (fr_tr (fr_tr (fr_us (by decide) (fr_us (by decide) (fr_tr fr_rf f4 (by decide)))) f41 (by decide)) f73 (by decide)) f110 (by decide))) (((frp_tr frp_rf g112 (by decide)) : frp p p106 [900, 901, 2103, 2104, 2105, 2504]) 8 (by decide)) hY130 (by decide) (by decide)) (by omega), ⟨_, (by rw [← hsec]; exact secK_x (by omega)), (by rw [fk_k (k := 900) (hY130).1.2.2.2.1 (by decide)]; exact hmk)⟩⟩)
        show tt Zi d 16 (166, [some (.inr (.inl 17)), some (.inr (.inl 25)), some (.inl x101), some (.inl x102)], [], n103, D104, s105, p106, c107) _
        replace k129 : (s105 601) ≤ (s105 2001) := k129
        exact tt_rtv rfl rfl (Or.inl ⟨n103, D104, s105, p106, c107, rfl, rfl, hS105, hC107, hW111, (fr_tr (fr_tr (fr_tr (fr_us (by decide) (fr_us (by decide) (fr_tr fr_rf f4 (by decide)))) f41 (by decide)) f73 (by decide)) f110 (by decide)), (frp_tr frp_rf g112 (by decide)), (ext_tr ext_rf xe113), FK118, ⟨S, by rw [← hsec]; exact secK_y (by omega), hmk, rwS_E hrw (by omega) (by omega)⟩⟩)
      · show tt Zi d 16 (155, [some (.inr (.inl 17)), some (.inr (.inl 25)), some (.inl x101), some (.inl x102)], [], n103, D104, s105, p106, c107) _
        refine tt_k 1 (S' := (156, [some (.inr (.inl 17)), some (.inr (.inl 25)), some (.inl x101), some (.inl x102)], [.inr (.inl 17)], n103, D104, s105, p106, c107)) rfl ?_
        refine tt_cl (by omega) rfl (e_refuseMark (Zi := Zi) (q := q) (n := n103) (D := D104) (s := s105) (p := p106) (c := c107) (by omega) hz (by omega) FK118.1 hS105 hC107 hW111 ) ?_
        rintro _ H1 (hF | ⟨rfl, hY132⟩)
        · exact hF.elim
        · exact tt_ax rfl (Or.inr ⟨rfl, cXp_mono (cXp_tr FK118 (show fr s s105 [800, 801, 802, 803, 804, 805, 806, 807, 808, 809, 902, 1705, 1706, 2001, 2002, 2003, 2004, 2005, 2006, 2106, 2107, 2108, 2109, 2110, 2111, 2112, 2113, 2114, 2115, 2116, 2500, 2501, 2502, 2503] from (fr_tr (fr_tr (fr_tr (fr_us (by decide) (fr_us (by decide) (fr_tr fr_rf f4 (by decide)))) f41 (by decide)) f73 (by decide)) f110 (by decide))) (((frp_tr frp_rf g112 (by decide)) : frp p p106 [900, 901, 2103, 2104, 2105, 2504]) 8 (by decide)) hY132 (by decide) (by decide)) (by omega), ⟨_, (by rw [← hsec]; exact secK_x (by omega)), (by rw [fk_k (k := 900) (hY132).1.2.2.2.1 (by decide)]; exact hmk)⟩⟩)
  · show tt Zi d 16 (38, [some (.inr (.inl 17)), some (.inr (.inl 25)), none, none], [], n, D, s38, p, c34) _
    refine tt_k 1 (S' := (39, [some (.inr (.inl 17)), some (.inr (.inl 25)), none, none], [.inr (.inl 17)], n, D, s38, p, c34)) rfl ?_
    refine tt_cl (by omega) rfl (e_refuseMark (Zi := Zi) (q := q) (n := n) (D := D) (s := s38) (p := p) (c := c34) (by omega) hz (by omega) FK35.1 hS38 hC34 hW40 ) ?_
    rintro _ H1 (hF | ⟨rfl, hY133⟩)
    · exact hF.elim
    · exact tt_ax rfl (Or.inr ⟨rfl, cXp_mono (cXp_tr FK35 (show fr s s38 [800, 801, 802, 803, 804, 805, 806, 807, 808, 809, 902, 1705, 1706, 2001, 2002, 2003, 2004, 2005, 2006, 2106, 2107, 2108, 2109, 2110, 2111, 2112, 2113, 2114, 2115, 2116, 2500, 2501, 2502, 2503] from (fr_tr (fr_us (by decide) (fr_us (by decide) (fr_tr fr_rf f4 (by decide)))) f41 (by decide))) ((frp_rf : frp p p [900, 901, 2103, 2104, 2105, 2504]) 8 (by decide)) hY133 (by decide) (by decide)) (by omega), ⟨_, (rowR_x hm1 (by omega)), (by rw [fk_k (k := 900) (hY133).1.2.2.2.1 (by decide)]; exact hx37)⟩⟩)
