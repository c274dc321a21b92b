/-! the class's tape reader, exactly -/
/-- behind a byte mk: what the mark will be -/
def mkI (A : TN) (R : Option (Int × Int)) (mk a : Int) : Prop := ∃ m : Nat, A.2 - a < m ∧ (if mk = 255 then rdMs A m a else some (mk, a)) = R
theorem mkr_0 {A : TN} {a : Int} (h : rdB A a = some 255) (h0 : 0 ≤ a ∧ A.2 ≤ 32768) : mkI A (rdMk A a) 255 (a + 1) := by
  refine ⟨40000, by omega, ?_⟩
  unfold rdMk
  rw [h, bd_s, if_pos rfl, if_pos rfl]
theorem mkr_s {A : TN} {R : Option (Int × Int)} {a v mk : Int} (h : mkI A R mk a) (hm : mk = 255) (hb : rdB A a = some v) (h0 : a < A.2) : mkI A R v (a + 1) := by
  obtain ⟨m, h1, h2⟩ := h
  rw [if_pos hm] at h2
  obtain ⟨k, rfl⟩ : ∃ k, m = k + 1 := ⟨m - 1, by omega⟩
  rw [rdMs, hb, bd_s] at h2
  exact ⟨k, by omega, h2⟩
theorem mkr_n {A : TN} {R : Option (Int × Int)} {a mk : Int} (h : mkI A R mk a) (hm : mk = 255) (hb : rdB A a = none) : R = none := by
  obtain ⟨m, h1, h2⟩ := h
  rw [if_pos hm] at h2
  cases m with
  | zero => exact h2.symm
  | succ k =>
    rw [rdMs, hb, bd_n] at h2
    exact h2.symm
theorem mkr_e {A : TN} {R : Option (Int × Int)} {a v : Int} (h : mkI A R v a) (hv : v ≠ 255) : some (v, a) = R := by
  obtain ⟨m, h1, h2⟩ := h
  rw [if_neg hv] at h2
  exact h2
set_option maxRecDepth 100000 in
set_option maxHeartbeats 4000000 in
theorem e_refuse {g : Nat → Int} {Zi : Nat → Option (Nat × (Nat → Int))} {d n q : Nat} {D : Nat → Nat × Nat} {s : Nat → Int} {p : Nat → Nat} {c : Nat → Nat → Int} (hd : 3 ≤ d) (hz : zk Zi) (hq : q + 6 ≤ 400000) (hD : wd n p) (hS : bS s) (hC : bC D c) (hW : wp q g n D p s) (re : Int) (wh : Int) (b_re : 0 ≤ re ∧ re ≤ 8) (b_wh : -1 ≤ wh ∧ wh ≤ 100000) : tt Zi d 20 (0, [some (.inr (.inl 20)), some (.inl re), some (.inl wh)], [], n, D, s, p, c) (fun R H => (False) ∨ (R = .inr 12 ∧ cXp ((q + 1)) g s p c [] [800, 801, 802, 803, 804, 805, 806, 807, 808, 809, 902, 1705, 1706, 2001, 2002, 2003, 2004, 2005, 2006, 2106, 2107, 2108, 2109, 2110, 2111, 2112, 2113, 2114, 2115, 2116] H)) := by
  refine tt_k 6 (S' := (10, [some (.inr (.inl 20)), some (.inl re), some (.inl wh)], [], n, D, (us (us s 2005 re) 2006 wh), p, c)) rfl ?_
  have hn1 := wp_n hW (by omega)
  exact tt_thr (q := (12, 497)) rfl rfl (by decide) (by decide) (by omega) (by omega) (Or.inr ⟨rfl, cXp_mono (q := q + 1) ⟨⟨(bS_us (bS_us hS (show 0 ≤ re ∧ re ≤ 8 by omega)) (show -1 ≤ wh ∧ wh ≤ 100000 by omega)), bC_x hC (hW).dz (by decide), wp_x (wp_us (by decide) (wp_us (by decide) hW)), fk_x (fk_rf hD), (show fr s (us (us s 2005 re) 2006 wh) [800, 801, 802, 803, 804, 805, 806, 807, 808, 809, 902, 1705, 1706, 2001, 2002, 2003, 2004, 2005, 2006, 2106, 2107, 2108, 2109, 2110, 2111, 2112, 2113, 2114, 2115, 2116] from (fr_us (by decide) (fr_us (by decide) fr_rf)))⟩, ((frp_rf : frp p p []) 8 (by decide))⟩ (by omega)⟩)
set_option maxRecDepth 100000 in
set_option maxHeartbeats 4000000 in
theorem e_readByte {g : Nat → Int} {Zi : Nat → Option (Nat × (Nat → Int))} {d n q : Nat} {D : Nat → Nat × Nat} {s : Nat → Int} {p : Nat → Nat} {c : Nat → Nat → Int} (hd : 4 ≤ d) (hz : zk Zi) (hq : q + 8 ≤ 400000) (hD : wd n p) (hS : bS s) (hC : bC D c) (hW : wp q g n D p s) (A : TN) (hp0 : tpl A (s 601) (c (p 600))) : tt Zi d 19 (0, [some (.inr (.inl 20)), none], [], n, D, s, p, c) (fun R H => (∃ (s' : Nat → Int) (r : Int), R = .inl (some (.inl r)) ∧ H = (n, D, s', p, c) ∧ bS s' ∧ wp q g n D p s' ∧ fr s s' [2001] ∧ (0 ≤ r ∧ r ≤ 255) ∧ (rdB A (s 2001) = some r) ∧ (s' 2001 = s 2001 + 1) ∧ (s' 2001 ≤ s 601)) ∨ (R = .inr 12 ∧ cXp ((q + 1)) g s p c [] [800, 801, 802, 803, 804, 805, 806, 807, 808, 809, 902, 1705, 1706, 2001, 2002, 2003, 2004, 2005, 2006, 2106, 2107, 2108, 2109, 2110, 2111, 2112, 2113, 2114, 2115, 2116] H ∧ (rdB A (s 2001) = none))) := by
  have b1 : 0 ≤ (s 601) ∧ (s 601) ≤ 32768 := hS 601
  have b2 : 0 ≤ (s 2001) ∧ (s 2001) ≤ 100000 := hS 2001
  have hA := hp0.1
  refine tt_k 5 (S' := (11, [some (.inr (.inl 20)), none], [.inl (s 601), .inl (s 2001)], n, D, s, p, c)) rfl ?_
  refine tb_lt (x := (s 2001)) (y := (s 601)) rfl rfl (by omega) (fun h3 => ?_) (fun h3 => ?_)
  · show tt Zi d 19 (26, [some (.inr (.inl 20)), none], [], n, D, s, p, c) _
    refine tt_k 4 (S' := (34, [some (.inr (.inl 20)), none], [.inl (s 2001), .inr (.inl 6)], n, D, s, p, c)) rfl ?_
    have b4 := wp_l6 hW
    have b5 := (hW).c6
    refine tt_cl (by omega) rfl (e_get6 (Zi := Zi) (q := q) (n := n) (D := D) (s := s) (p := p) (c := c) (by omega) hz (by omega) hD hS hC hW (s 2001) (by omega) (show 0 ≤ (s 2001) ∧ (s 2001) < (ln D (p 600) : Int) by omega)) ?_
    rintro _ _ ⟨r6, rfl, rfl, b7, k8⟩
    show tt Zi d 19 (37, [some (.inr (.inl 20)), none], [.inl r6], n, D, s, p, c) _
    refine tt_k 8 (S' := (49, [some (.inr (.inl 20)), some (.inl r6)], [.inl r6], n, D, (us s 2001 ((s 2001) + 1)), p, c)) rfl ?_
    exact tt_rti rfl rfl (Or.inl ⟨(us s 2001 ((s 2001) + 1)), r6, rfl, rfl, (bS_us hS (show 0 ≤ ((s 2001) + 1) ∧ ((s 2001) + 1) ≤ 100000 by omega)), (wp_us (by decide) hW), (fr_us (by decide) fr_rf), by omega, by show rdB A (s 2001) = some r6; exact rdB_s hp0 (by omega) k8, rfl, by show ((s 2001) + 1) ≤ s 601; omega⟩)
  · show tt Zi d 19 (14, [some (.inr (.inl 20)), none], [], n, D, s, p, c) _
    refine tt_k 5 (S' := (23, [some (.inr (.inl 20)), none], [.inl (s 601), .inl 1, .inr (.inl 20)], n, D, s, p, c)) rfl ?_
    refine tt_cl (by omega) rfl (e_refuse (Zi := Zi) (q := q) (n := n) (D := D) (s := s) (p := p) (c := c) (by omega) hz (by omega) hD hS hC hW 1 (s 601) (by omega) (by omega)) ?_
    rintro _ H1 (hF | ⟨rfl, hY9⟩)
    · exact hF.elim
    · exact tt_ax rfl (Or.inr ⟨rfl, cXp_mono (cXp_tr (fk_rf hD) (show fr s s [800, 801, 802, 803, 804, 805, 806, 807, 808, 809, 902, 1705, 1706, 2001, 2002, 2003, 2004, 2005, 2006, 2106, 2107, 2108, 2109, 2110, 2111, 2112, 2113, 2114, 2115, 2116] from fr_rf) ((frp_rf : frp p p []) 8 (by decide)) hY9 (by decide) (by decide)) (by omega), rdB_n hp0 (by omega)⟩)
set_option maxRecDepth 100000 in
set_option maxHeartbeats 4000000 in
theorem e_readTwo {g : Nat → Int} {Zi : Nat → Option (Nat × (Nat → Int))} {d n q : Nat} {D : Nat → Nat × Nat} {s : Nat → Int} {p : Nat → Nat} {c : Nat → Nat → Int} (hd : 5 ≤ d) (hz : zk Zi) (hq : q + 10 ≤ 400000) (hD : wd n p) (hS : bS s) (hC : bC D c) (hW : wp q g n D p s) (A : TN) (hp0 : tpl A (s 601) (c (p 600))) : tt Zi d 25 (0, [some (.inr (.inl 20)), none], [], n, D, s, p, c) (fun R H => (∃ (s' : Nat → Int) (r : Int), R = .inl (some (.inl r)) ∧ H = (n, D, s', p, c) ∧ bS s' ∧ wp q g n D p s' ∧ fr s s' [2001] ∧ (0 ≤ r ∧ r ≤ 65535) ∧ (rdTwo A (s 2001) = some r) ∧ (s' 2001 = s 2001 + 2) ∧ (s' 2001 ≤ s 601)) ∨ (R = .inr 12 ∧ cXp ((q + 1)) g s p c [] [800, 801, 802, 803, 804, 805, 806, 807, 808, 809, 902, 1705, 1706, 2001, 2002, 2003, 2004, 2005, 2006, 2106, 2107, 2108, 2109, 2110, 2111, 2112, 2113, 2114, 2115, 2116] H ∧ (rdTwo A (s 2001) = none))) := by
  refine tt_k 1 (S' := (1, [some (.inr (.inl 20)), none], [.inr (.inl 20)], n, D, s, p, c)) rfl ?_
  have b1 : 0 ≤ (s 601) ∧ (s 601) ≤ 32768 := hS 601
  refine tt_cl (by omega) rfl (e_readByte (Zi := Zi) (q := q) (n := n) (D := D) (s := s) (p := p) (c := c) (by omega) hz (by omega) hD hS hC hW A hp0) ?_
  rintro _ H1 (⟨s2, r3, rfl, rfl, hS2, hW4, f5, b6, k7, k8, k9⟩ | ⟨rfl, hY10, hn11⟩)
  rotate_left
  · exact tt_ax rfl (Or.inr ⟨rfl, cXp_mono (cXp_tr (fk_rf hD) (show fr s s [800, 801, 802, 803, 804, 805, 806, 807, 808, 809, 902, 1705, 1706, 2001, 2002, 2003, 2004, 2005, 2006, 2106, 2107, 2108, 2109, 2110, 2111, 2112, 2113, 2114, 2115, 2116] from fr_rf) ((frp_rf : frp p p []) 8 (by decide)) hY10 (by decide) (by decide)) (by omega), (by unfold rdTwo; rw [hn11, bd_n])⟩)
  show tt Zi d 25 (4, [some (.inr (.inl 20)), none], [.inl r3], n, D, s2, p, c) _
  replace k7 : rdB A ((s 2001)) = some r3 := k7
  replace k8 : (s2 2001) = (s 2001) + 1 := k8
  replace k9 : (s2 2001) ≤ (s 601) := k9
  have b12 : 0 ≤ (s 2001) ∧ (s 2001) ≤ 100000 := hS 2001
  have b13 : 0 ≤ (s2 2001) ∧ (s2 2001) ≤ 100000 := hS2 2001
  have e14 : s2 601 = (s 601) := (f5 601 (by decide))
  have b15 : 0 ≤ (s2 601) ∧ (s2 601) ≤ 32768 := hS2 601
  have hx16 : tpl A (s2 601) (c (p 600)) := by rw [f5 601 (by decide)]; exact hp0
  refine tt_k 5 (S' := (11, [some (.inr (.inl 20)), some (.inl r3)], [.inr (.inl 20), .inl (256 * r3)], n, D, s2, p, c)) rfl ?_
  refine tt_cl (by omega) rfl (e_readByte (Zi := Zi) (q := q) (n := n) (D := D) (s := s2) (p := p) (c := c) (by omega) hz (by omega) hD hS2 hC hW4 A hx16) ?_
  rintro _ H1 (⟨s17, r18, rfl, rfl, hS17, hW19, f20, b21, k22, k23, k24⟩ | ⟨rfl, hY25, hn26⟩)
  rotate_left
  · exact tt_ax rfl (Or.inr ⟨rfl, cXp_mono (cXp_tr (fk_rf hD) (show fr s s2 [800, 801, 802, 803, 804, 805, 806, 807, 808, 809, 902, 1705, 1706, 2001, 2002, 2003, 2004, 2005, 2006, 2106, 2107, 2108, 2109, 2110, 2111, 2112, 2113, 2114, 2115, 2116] from (fr_tr fr_rf f5 (by decide))) ((frp_rf : frp p p []) 8 (by decide)) hY25 (by decide) (by decide)) (by omega), (by have h := hn26; rw [k8] at h; unfold rdTwo; rw [k7, bd_s, h, bd_n])⟩)
  show tt Zi d 25 (14, [some (.inr (.inl 20)), some (.inl r3)], [.inl r18, .inl (256 * r3)], n, D, s17, p, c) _
  replace k22 : rdB A ((s2 2001)) = some r18 := k22
  replace k23 : (s17 2001) = (s2 2001) + 1 := k23
  replace k24 : (s17 2001) ≤ (s2 601) := k24
  have b27 : 0 ≤ (s17 2001) ∧ (s17 2001) ≤ 100000 := hS17 2001
  have e28 : s17 601 = (s2 601) := (f20 601 (by decide))
  have b29 : 0 ≤ (s17 601) ∧ (s17 601) ≤ 32768 := hS17 601
  have hx30 : tpl A (s17 601) (c (p 600)) := by rw [f20 601 (by decide)]; exact hx16
  refine tt_k 1 (S' := (15, [some (.inr (.inl 20)), some (.inl r3)], [.inl ((256 * r3) + r18)], n, D, s17, p, c)) rfl ?_
  exact tt_rti rfl rfl (Or.inl ⟨s17, ((256 * r3) + r18), rfl, rfl, hS17, hW19, (fr_tr (fr_tr fr_rf f5 (by decide)) f20 (by decide)), by omega, by show rdTwo A (s 2001) = some ((256 * r3) + r18); have h := k22; rw [k8] at h; unfold rdTwo; rw [k7, bd_s, h, bd_s], by show (s17 2001) = s 2001 + 2; omega, by show (s17 2001) ≤ s 601; omega⟩)
set_option maxRecDepth 100000 in
set_option maxHeartbeats 4000000 in
theorem e_expect {g : Nat → Int} {Zi : Nat → Option (Nat × (Nat → Int))} {d n q : Nat} {D : Nat → Nat × Nat} {s : Nat → Int} {p : Nat → Nat} {c : Nat → Nat → Int} (hd : 5 ≤ d) (hz : zk Zi) (hq : q + 10 ≤ 400000) (hD : wd n p) (hS : bS s) (hC : bC D c) (hW : wp q g n D p s) (A : TN) (v : Int) (b_v : -2147483648 ≤ v ∧ v ≤ 2147483647) (hp0 : tpl A (s 601) (c (p 600))) : tt Zi d 27 (0, [some (.inr (.inl 20)), some (.inl v)], [], n, D, s, p, c) (fun R H => (∃ (s' : Nat → Int), R = .inl none ∧ H = (n, D, s', p, c) ∧ bS s' ∧ wp q g n D p s' ∧ fr s s' [2001] ∧ (rdB A (s 2001) = some v) ∧ (s' 2001 = s 2001 + 1) ∧ (s' 2001 ≤ s 601)) ∨ (R = .inr 12 ∧ cXp ((q + 1)) g s p c [] [800, 801, 802, 803, 804, 805, 806, 807, 808, 809, 902, 1705, 1706, 2001, 2002, 2003, 2004, 2005, 2006, 2106, 2107, 2108, 2109, 2110, 2111, 2112, 2113, 2114, 2115, 2116] H ∧ (rdB A (s 2001) ≠ some v))) := by
  refine tt_k 1 (S' := (1, [some (.inr (.inl 20)), some (.inl v)], [.inr (.inl 20)], n, D, s, p, c)) rfl ?_
  have b1 : 0 ≤ (s 601) ∧ (s 601) ≤ 32768 := hS 601
  refine tt_cl (by omega) rfl (e_readByte (Zi := Zi) (q := q) (n := n) (D := D) (s := s) (p := p) (c := c) (by omega) hz (by omega) hD hS hC hW A hp0) ?_
  rintro _ H1 (⟨s2, r3, rfl, rfl, hS2, hW4, f5, b6, k7, k8, k9⟩ | ⟨rfl, hY10, hn11⟩)
  rotate_left
  · exact tt_ax rfl (Or.inr ⟨rfl, cXp_mono (cXp_tr (fk_rf hD) (show fr s s [800, 801, 802, 803, 804, 805, 806, 807, 808, 809, 902, 1705, 1706, 2001, 2002, 2003, 2004, 2005, 2006, 2106, 2107, 2108, 2109, 2110, 2111, 2112, 2113, 2114, 2115, 2116] from fr_rf) ((frp_rf : frp p p []) 8 (by decide)) hY10 (by decide) (by decide)) (by omega), (by rw [hn11]; exact fun h => by cases h)⟩)
  show tt Zi d 27 (4, [some (.inr (.inl 20)), some (.inl v)], [.inl r3], n, D, s2, p, c) _
  replace k7 : rdB A ((s 2001)) = some r3 := k7
  replace k8 : (s2 2001) = (s 2001) + 1 := k8
  replace k9 : (s2 2001) ≤ (s 601) := k9
  have b12 : 0 ≤ (s 2001) ∧ (s 2001) ≤ 100000 := hS 2001
  have b13 : 0 ≤ (s2 2001) ∧ (s2 2001) ≤ 100000 := hS2 2001
  have e14 : s2 601 = (s 601) := (f5 601 (by decide))
  have b15 : 0 ≤ (s2 601) ∧ (s2 601) ≤ 32768 := hS2 601
  have hx16 : tpl A (s2 601) (c (p 600)) := by rw [f5 601 (by decide)]; exact hp0
  refine tt_k 1 (S' := (5, [some (.inr (.inl 20)), some (.inl v)], [.inl v, .inl r3], n, D, s2, p, c)) rfl ?_
  refine tb_eq (x := r3) (y := v) rfl rfl (by omega) (fun h17 => ?_) (fun h17 => ?_)
  · show tt Zi d 27 (17, [some (.inr (.inl 20)), some (.inl v)], [], n, D, s2, p, c) _
    exact tt_rtv rfl rfl (Or.inl ⟨s2, rfl, rfl, hS2, hW4, (fr_tr fr_rf f5 (by decide)), by show rdB A (s 2001) = some v; rw [k7]; exact congrArg some (by omega), by show (s2 2001) = s 2001 + 1; omega, by show (s2 2001) ≤ s 601; omega⟩)
  · show tt Zi d 27 (8, [some (.inr (.inl 20)), some (.inl v)], [], n, D, s2, p, c) _
    refine tt_k 3 (S' := (11, [some (.inr (.inl 20)), some (.inl v)], [.inr (.inl 20), .inl 5, .inr (.inl 20)], n, D, s2, p, c)) rfl ?_
    refine tt_cl (by omega) rfl (g_openPlace (Zi := Zi) (q := q) (n := n) (D := D) (s := s2) (p := p) (c := c) (by omega) hz (by omega) hD hS2 hC hW4 ) ?_
    rintro _ _ ⟨r18, rfl, rfl, b19, k20⟩
    show tt Zi d 27 (14, [some (.inr (.inl 20)), some (.inl v)], [.inl r18, .inl 5, .inr (.inl 20)], n, D, s2, p, c) _
    replace k20 : r18 = (s2 2001) - 1 := k20
    refine tt_cl (by omega) rfl (e_refuse (Zi := Zi) (q := q) (n := n) (D := D) (s := s2) (p := p) (c := c) (by omega) hz (by omega) hD hS2 hC hW4 5 r18 (by omega) (by omega)) ?_
    rintro _ H1 (hF | ⟨rfl, hY21⟩)
    · exact hF.elim
    · exact tt_ax rfl (Or.inr ⟨rfl, cXp_mono (cXp_tr (fk_rf hD) (show fr s s2 [800, 801, 802, 803, 804, 805, 806, 807, 808, 809, 902, 1705, 1706, 2001, 2002, 2003, 2004, 2005, 2006, 2106, 2107, 2108, 2109, 2110, 2111, 2112, 2113, 2114, 2115, 2116] from (fr_tr fr_rf f5 (by decide))) ((frp_rf : frp p p []) 8 (by decide)) hY21 (by decide) (by decide)) (by omega), (by rw [k7]; exact fun h => by injection h; omega)⟩)
set_option maxRecDepth 100000 in
set_option maxHeartbeats 4000000 in
theorem e_readMark_L36 {g : Nat → Int} {Zi : Nat → Option (Nat × (Nat → Int))} {d n q : Nat} {D : Nat → Nat × Nat} {s : Nat → Int} {p : Nat → Nat} {c : Nat → Nat → Int}  {Q : mi_Rs → mi_H → Prop} (hd : 5 ≤ d) (hz : zk Zi) (hq : q + 10 ≤ 400001) (hD : wd n p) (hS : bS s) (hC : bC D c) (hW : wp q g n D p s) (A : TN) (R : Option (Int × Int)) (U : Int) (hq0 : tpl A (s 601) (c (p 600))) (hX12 : ∀ H, cXp (q + 1) g s p c [] [800, 801, 802, 803, 804, 805, 806, 807, 808, 809, 902, 1705, 1706, 2001, 2002, 2003, 2004, 2005, 2006, 2106, 2107, 2108, 2109, 2110, 2111, 2112, 2113, 2114, 2115, 2116] H → (R = none) → Q (.inr 12) H)
  (hK : ∀ (mk : Int) (i : Int) (s0 : Nat → Int) (b_mk : 0 ≤ mk ∧ mk ≤ 255) (b_i : -1 ≤ i ∧ i ≤ 32768) (hS0 : bS s0) (hF0 : fr s s0 [2001]) (hW0 : wp q g n D p s0) (i0 : (s0 2001 ≤ s 601 ∧ U + 1 ≤ s0 2001) ∧ (mk ≠ 255 → U + 2 ≤ s0 2001)) (i1 : i = s 601 - s0 2001 ∧ 0 ≤ s0 2001) (i2 : mkI A R mk (s0 2001)), (mk ≠ 255) → tt Zi d 18 (58, [some (.inr (.inl 20)), some (.inl mk), some (.inl i)], [], n, D, s0, p, c) Q) :
  ∀ (m : Nat) (mk : Int) (i : Int) (s0 : Nat → Int) (b_mk : 0 ≤ mk ∧ mk ≤ 255) (b_i : -1 ≤ i ∧ i ≤ 32768) (hS0 : bS s0) (hF0 : fr s s0 [2001]) (hW0 : wp q g n D p s0) (i0 : (s0 2001 ≤ s 601 ∧ U + 1 ≤ s0 2001) ∧ (mk ≠ 255 → U + 2 ≤ s0 2001)) (i1 : i = s 601 - s0 2001 ∧ 0 ≤ s0 2001) (i2 : mkI A R mk (s0 2001)), (i + 1).toNat < m → tt Zi d 18 (36, [some (.inr (.inl 20)), some (.inl mk), some (.inl i)], [], n, D, s0, p, c) Q := by
  intro m
  induction m with
  | zero => intro mk i s0 b_mk b_i hS0 hF0 hW0 i0 i1 i2 hm; exact absurd hm (by omega)
  | succ m ih =>
    intro mk i s0 b_mk b_i hS0 hF0 hW0 i0 i1 i2 hm
    have e1 : s0 601 = s 601 := hF0 601 (by decide)
    have b2 : 0 ≤ (s0 601) ∧ (s0 601) ≤ 32768 := hS0 601
    have b3 : 0 ≤ (s 601) ∧ (s 601) ≤ 32768 := hS 601
    have htp : tpl A (s0 601) (c (p 600)) := by rw [hF0 601 (by decide)]; exact hq0
    have hA := hq0.1
    refine tt_k 1 (S' := (37, [some (.inr (.inl 20)), some (.inl mk), some (.inl i)], [.inl i], n, D, s0, p, c)) rfl ?_
    refine tz_lt (x := i) rfl rfl (by omega) (fun h4 => ?_) (fun h4 => ?_)
    · show tt Zi d 18 (58, [some (.inr (.inl 20)), some (.inl mk), some (.inl i)], [], n, D, s0, p, c) _
      exact hK mk i s0 (by omega) (by omega) hS0 hF0 hW0 (show ((s0 2001) ≤ s 601 ∧ U + 1 ≤ (s0 2001)) ∧ (mk ≠ 255 → U + 2 ≤ (s0 2001)) by omega) (show i = s 601 - (s0 2001) ∧ 0 ≤ (s0 2001) by omega) i2 (by omega)
    · show tt Zi d 18 (40, [some (.inr (.inl 20)), some (.inl mk), some (.inl i)], [], n, D, s0, p, c) _
      refine tt_k 2 (S' := (44, [some (.inr (.inl 20)), some (.inl mk), some (.inl i)], [.inl 255, .inl mk], n, D, s0, p, c)) rfl ?_
      refine tb_ne (x := mk) (y := 255) rfl rfl (by omega) (fun h5 => ?_) (fun h5 => ?_)
      · show tt Zi d 18 (58, [some (.inr (.inl 20)), some (.inl mk), some (.inl i)], [], n, D, s0, p, c) _
        exact hK mk i s0 (by omega) (by omega) hS0 hF0 hW0 (show ((s0 2001) ≤ s 601 ∧ U + 1 ≤ (s0 2001)) ∧ (mk ≠ 255 → U + 2 ≤ (s0 2001)) by omega) (show i = s 601 - (s0 2001) ∧ 0 ≤ (s0 2001) by omega) i2 (by omega)
      · show tt Zi d 18 (47, [some (.inr (.inl 20)), some (.inl mk), some (.inl i)], [], n, D, s0, p, c) _
        refine tt_k 1 (S' := (48, [some (.inr (.inl 20)), some (.inl mk), some (.inl i)], [.inr (.inl 20)], n, D, s0, p, c)) rfl ?_
        refine tt_cl (by omega) rfl (e_readByte (Zi := Zi) (q := q) (n := n) (D := D) (s := s0) (p := p) (c := c) (by omega) hz (by omega) hD hS0 hC hW0 A htp) ?_
        rintro _ H1 (⟨s6, r7, rfl, rfl, hS6, hW8, f9, b10, k11, k12, k13⟩ | ⟨rfl, hY14, hn15⟩)
        rotate_left
        · exact tt_ax rfl (hX12 _ (cXp_mono (cXp_tr (fk_rf hD) (fr_wk (show fr s s0 [2001] from hF0) (by decide)) ((frp_rf : frp p p []) 8 (by decide)) hY14 (by decide) (by decide)) (by omega)) (mkr_n i2 (by omega) hn15))
        show tt Zi d 18 (51, [some (.inr (.inl 20)), some (.inl mk), some (.inl i)], [.inl r7], n, D, s6, p, c) _
        replace k11 : rdB A ((s0 2001)) = some r7 := k11
        replace k12 : (s6 2001) = (s0 2001) + 1 := k12
        replace k13 : (s6 2001) ≤ (s0 601) := k13
        have b16 : 0 ≤ (s0 2001) ∧ (s0 2001) ≤ 100000 := hS0 2001
        have b17 : 0 ≤ (s6 2001) ∧ (s6 2001) ≤ 100000 := hS6 2001
        have e18 : s6 601 = (s0 601) := (f9 601 (by decide))
        have b19 : 0 ≤ (s6 601) ∧ (s6 601) ≤ 32768 := hS6 601
        have hx20 : tpl A (s6 601) (c (p 600)) := by rw [f9 601 (by decide)]; exact htp
        refine tt_k 3 (S' := (36, [some (.inr (.inl 20)), some (.inl r7), some (.inl (i + (-1)))], [], n, D, s6, p, c)) rfl ?_
        exact ih r7 (i + (-1)) s6 (by omega) (by omega) hS6 (fr_tr hF0 f9 (by decide)) hW8 (show ((s6 2001) ≤ s 601 ∧ U + 1 ≤ (s6 2001)) ∧ (r7 ≠ 255 → U + 2 ≤ (s6 2001)) by omega) (show (i + (-1)) = s 601 - (s6 2001) ∧ 0 ≤ (s6 2001) by omega) (by have h := mkr_s i2 (by omega) k11 (by omega); rw [← k12] at h; exact h) (show ((i + (-1)) + 1).toNat < m by omega)
set_option maxRecDepth 100000 in
set_option maxHeartbeats 4000000 in
theorem e_readMark {g : Nat → Int} {Zi : Nat → Option (Nat × (Nat → Int))} {d n q : Nat} {D : Nat → Nat × Nat} {s : Nat → Int} {p : Nat → Nat} {c : Nat → Nat → Int} (hd : 5 ≤ d) (hz : zk Zi) (hq : q + 10 ≤ 400000) (hD : wd n p) (hS : bS s) (hC : bC D c) (hW : wp q g n D p s) (A : TN) (hp0 : tpl A (s 601) (c (p 600))) : tt Zi d 18 (0, [some (.inr (.inl 20)), none, none], [], n, D, s, p, c) (fun R H => (∃ (s' : Nat → Int) (r : Int), R = .inl (some (.inl r)) ∧ H = (n, D, s', p, c) ∧ bS s' ∧ wp q g n D p s' ∧ fr s s' [2001] ∧ (0 ≤ r ∧ r ≤ 255) ∧ (rdMk A (s 2001) = some (r, s' 2001)) ∧ (s' 2001 ≤ s 601) ∧ (s 2001 + 2 ≤ s' 2001) ∧ (r ≠ 255)) ∨ (R = .inr 12 ∧ cXp ((q + 1)) g s p c [] [800, 801, 802, 803, 804, 805, 806, 807, 808, 809, 902, 1705, 1706, 2001, 2002, 2003, 2004, 2005, 2006, 2106, 2107, 2108, 2109, 2110, 2111, 2112, 2113, 2114, 2115, 2116] H ∧ (rdMk A (s 2001) = none))) := by
  have b1 : 0 ≤ (s 601) ∧ (s 601) ≤ 32768 := hS 601
  have b2 : 0 ≤ (s 2001) ∧ (s 2001) ≤ 100000 := hS 2001
  have hA := hp0.1
  refine tt_k 1 (S' := (1, [some (.inr (.inl 20)), none, none], [.inr (.inl 20)], n, D, s, p, c)) rfl ?_
  refine tt_cl (by omega) rfl (e_readByte (Zi := Zi) (q := q) (n := n) (D := D) (s := s) (p := p) (c := c) (by omega) hz (by omega) hD hS hC hW A hp0) ?_
  rintro _ H1 (⟨s3, r4, rfl, rfl, hS3, hW5, f6, b7, k8, k9, k10⟩ | ⟨rfl, hY11, hn12⟩)
  rotate_left
  · exact tt_ax rfl (Or.inr ⟨rfl, cXp_mono (cXp_tr (fk_rf hD) (show fr s s [800, 801, 802, 803, 804, 805, 806, 807, 808, 809, 902, 1705, 1706, 2001, 2002, 2003, 2004, 2005, 2006, 2106, 2107, 2108, 2109, 2110, 2111, 2112, 2113, 2114, 2115, 2116] from fr_rf) ((frp_rf : frp p p []) 8 (by decide)) hY11 (by decide) (by decide)) (by omega), (by unfold rdMk; rw [hn12, bd_n])⟩)
  show tt Zi d 18 (4, [some (.inr (.inl 20)), none, none], [.inl r4], n, D, s3, p, c) _
  replace k8 : rdB A ((s 2001)) = some r4 := k8
  replace k9 : (s3 2001) = (s 2001) + 1 := k9
  replace k10 : (s3 2001) ≤ (s 601) := k10
  have b13 : 0 ≤ (s3 2001) ∧ (s3 2001) ≤ 100000 := hS3 2001
  have e14 : s3 601 = (s 601) := (f6 601 (by decide))
  have b15 : 0 ≤ (s3 601) ∧ (s3 601) ≤ 32768 := hS3 601
  have hx16 : tpl A (s3 601) (c (p 600)) := by rw [f6 601 (by decide)]; exact hp0
  refine tt_k 1 (S' := (7, [some (.inr (.inl 20)), none, none], [.inl 255, .inl r4], n, D, s3, p, c)) rfl ?_
  refine tb_eq (x := r4) (y := 255) rfl rfl (by omega) (fun h17 => ?_) (fun h17 => ?_)
  · show tt Zi d 18 (19, [some (.inr (.inl 20)), none, none], [], n, D, s3, p, c) _
    refine tt_k 9 (S' := (36, [some (.inr (.inl 20)), some (.inl 255), some (.inl ((s3 601) - (s3 2001)))], [], n, D, s3, p, c)) rfl ?_
    refine e_readMark_L36 (Zi := Zi) (q := q) (n := n) (D := D) (s := s3) (p := p) (c := c) hd hz (by omega) hD hS3 hC hW5 A (rdMk A (s 2001)) (s 2001)   hx16 (fun H h hq9 => (Or.inr ⟨rfl, cXp_mono (cXp_tr (fk_rf hD) (show fr s s3 [800, 801, 802, 803, 804, 805, 806, 807, 808, 809, 902, 1705, 1706, 2001, 2002, 2003, 2004, 2005, 2006, 2106, 2107, 2108, 2109, 2110, 2111, 2112, 2113, 2114, 2115, 2116] from (fr_tr fr_rf f6 (by decide))) ((frp_rf : frp p p []) 8 (by decide)) h (by decide) (by decide)) (by omega), (show rdMk A (s 2001) = none from hq9)⟩)) ?_ _ 255 ((s3 601) - (s3 2001)) s3 (by omega) (by omega) hS3 fr_rf hW5 (show ((s3 2001) ≤ (s3 601) ∧ (s 2001) + 1 ≤ (s3 2001)) ∧ (255 ≠ 255 → (s 2001) + 2 ≤ (s3 2001)) by omega) (show ((s3 601) - (s3 2001)) = (s3 601) - (s3 2001) ∧ 0 ≤ (s3 2001) by omega) (by have h := k8; rw [show r4 = 255 by omega] at h; have h2 := mkr_0 h (by omega); rw [← k9] at h2; exact h2) (Nat.lt_succ_self _)
    intro x18 x19 s20 b21 b22 hS20 f23 hW24 i25 i26 i27 hx28
    show tt Zi d 18 (58, [some (.inr (.inl 20)), some (.inl x18), some (.inl x19)], [], n, D, s20, p, c) _
    replace i25 : ((s20 2001) ≤ (s3 601) ∧ (s 2001) + 1 ≤ (s20 2001)) ∧ (x18 ≠ 255 → (s 2001) + 2 ≤ (s20 2001)) := i25
    have b29 : 0 ≤ (s20 2001) ∧ (s20 2001) ≤ 100000 := hS20 2001
    replace i26 : x19 = (s3 601) - (s20 2001) ∧ 0 ≤ (s20 2001) := i26
    replace i27 : mkI A (rdMk A (s 2001)) x18 ((s20 2001)) := i27
    replace hx28 : x18 ≠ 255 := hx28
    have e30 : s20 601 = (s3 601) := (f23 601 (by decide))
    have b31 : 0 ≤ (s20 601) ∧ (s20 601) ≤ 32768 := hS20 601
    have hx32 : tpl A (s20 601) (c (p 600)) := by rw [f23 601 (by decide)]; exact hx16
    refine tt_k 1 (S' := (59, [some (.inr (.inl 20)), some (.inl x18), some (.inl x19)], [.inl x18], n, D, s20, p, c)) rfl ?_
    exact tt_rti rfl rfl (Or.inl ⟨s20, x18, rfl, rfl, hS20, hW24, (fr_tr (fr_tr fr_rf f6 (by decide)) f23 (by decide)), by omega, (mkr_e i27 hx28).symm, by show (s20 2001) ≤ s 601; omega, by show s 2001 + 2 ≤ (s20 2001); omega, by show x18 ≠ 255; omega⟩)
  · show tt Zi d 18 (10, [some (.inr (.inl 20)), none, none], [], n, D, s3, p, c) _
    refine tt_k 3 (S' := (13, [some (.inr (.inl 20)), none, none], [.inr (.inl 20), .inl 2, .inr (.inl 20)], n, D, s3, p, c)) rfl ?_
    refine tt_cl (by omega) rfl (g_openPlace (Zi := Zi) (q := q) (n := n) (D := D) (s := s3) (p := p) (c := c) (by omega) hz (by omega) hD hS3 hC hW5 ) ?_
    rintro _ _ ⟨r33, rfl, rfl, b34, k35⟩
    show tt Zi d 18 (16, [some (.inr (.inl 20)), none, none], [.inl r33, .inl 2, .inr (.inl 20)], n, D, s3, p, c) _
    replace k35 : r33 = (s3 2001) - 1 := k35
    refine tt_cl (by omega) rfl (e_refuse (Zi := Zi) (q := q) (n := n) (D := D) (s := s3) (p := p) (c := c) (by omega) hz (by omega) hD hS3 hC hW5 2 r33 (by omega) (by omega)) ?_
    rintro _ H1 (hF | ⟨rfl, hY36⟩)
    · exact hF.elim
    · exact tt_ax rfl (Or.inr ⟨rfl, cXp_mono (cXp_tr (fk_rf hD) (show fr s s3 [800, 801, 802, 803, 804, 805, 806, 807, 808, 809, 902, 1705, 1706, 2001, 2002, 2003, 2004, 2005, 2006, 2106, 2107, 2108, 2109, 2110, 2111, 2112, 2113, 2114, 2115, 2116] from (fr_tr fr_rf f6 (by decide))) ((frp_rf : frp p p []) 8 (by decide)) hY36 (by decide) (by decide)) (by omega), (by unfold rdMk; rw [k8, bd_s, if_neg (by omega)])⟩)
set_option maxRecDepth 100000 in
set_option maxHeartbeats 4000000 in
theorem e_skip {g : Nat → Int} {Zi : Nat → Option (Nat × (Nat → Int))} {d n q : Nat} {D : Nat → Nat × Nat} {s : Nat → Int} {p : Nat → Nat} {c : Nat → Nat → Int} (hd : 0 ≤ d) (hz : zk Zi) (hq : q + 0 ≤ 400000) (hD : wd n p) (hS : bS s) (hC : bC D c) (hW : wp q g n D p s) (v : Int) (b_v : 0 ≤ v ∧ v ≤ 65533) (hp0 : s 2001 ≤ 32768) : tt Zi d 89 (0, [some (.inr (.inl 20)), some (.inl v)], [], n, D, s, p, c) (fun R H => ∃ (s' : Nat → Int), R = .inl none ∧ H = (n, D, s', p, c) ∧ bS s' ∧ wp q g n D p s' ∧ fr s s' [2001] ∧ (s' 2001 = s 2001 + v)) := by
  refine tt_k 6 (S' := (10, [some (.inr (.inl 20)), some (.inl v)], [], n, D, (us s 2001 ((s 2001) + v)), p, c)) rfl ?_
  have b1 : 0 ≤ (s 2001) ∧ (s 2001) ≤ 100000 := hS 2001
  exact tt_rtv rfl rfl ⟨(us s 2001 ((s 2001) + v)), rfl, rfl, (bS_us hS (show 0 ≤ ((s 2001) + v) ∧ ((s 2001) + v) ≤ 100000 by omega)), (wp_us (by decide) hW), (fr_us (by decide) fr_rf), rfl⟩
set_option maxRecDepth 100000 in
set_option maxHeartbeats 4000000 in
theorem e_checkAll {g : Nat → Int} {Zi : Nat → Option (Nat × (Nat → Int))} {d n q : Nat} {D : Nat → Nat × Nat} {s : Nat → Int} {p : Nat → Nat} {c : Nat → Nat → Int} (hd : 4 ≤ d) (hz : zk Zi) (hq : q + 8 ≤ 400000) (hD : wd n p) (hS : bS s) (hC : bC D c) (hW : wp q g n D p s)  : tt Zi d 90 (0, [some (.inr (.inl 20))], [], n, D, s, p, c) (fun R H => (R = .inl none ∧ H = (n, D, s, p, c) ∧ (s 601 ≤ s 2001)) ∨ (R = .inr 12 ∧ cXp ((q + 1)) g s p c [] [800, 801, 802, 803, 804, 805, 806, 807, 808, 809, 902, 1705, 1706, 2001, 2002, 2003, 2004, 2005, 2006, 2106, 2107, 2108, 2109, 2110, 2111, 2112, 2113, 2114, 2115, 2116] H ∧ (s 2001 < s 601))) := by
  have b1 : 0 ≤ (s 601) ∧ (s 601) ≤ 32768 := hS 601
  have b2 : 0 ≤ (s 2001) ∧ (s 2001) ≤ 100000 := hS 2001
  refine tt_k 5 (S' := (11, [some (.inr (.inl 20))], [.inl (s 601), .inl (s 2001)], n, D, s, p, c)) rfl ?_
  refine tb_ge (x := (s 2001)) (y := (s 601)) rfl rfl (by omega) (fun h3 => ?_) (fun h3 => ?_)
  · show tt Zi d 90 (24, [some (.inr (.inl 20))], [], n, D, s, p, c) _
    exact tt_rtv rfl rfl (Or.inl ⟨rfl, rfl, by show s 601 ≤ s 2001; omega⟩)
  · show tt Zi d 90 (14, [some (.inr (.inl 20))], [], n, D, s, p, c) _
    refine tt_k 4 (S' := (21, [some (.inr (.inl 20))], [.inl (s 2001), .inl 8, .inr (.inl 20)], n, D, s, p, c)) rfl ?_
    refine tt_cl (by omega) rfl (e_refuse (Zi := Zi) (q := q) (n := n) (D := D) (s := s) (p := p) (c := c) (by omega) hz (by omega) hD hS hC hW 8 (s 2001) (by omega) (by omega)) ?_
    rintro _ H1 (hF | ⟨rfl, hY4⟩)
    · exact hF.elim
    · exact tt_ax rfl (Or.inr ⟨rfl, cXp_mono (cXp_tr (fk_rf hD) (show fr s s [800, 801, 802, 803, 804, 805, 806, 807, 808, 809, 902, 1705, 1706, 2001, 2002, 2003, 2004, 2005, 2006, 2106, 2107, 2108, 2109, 2110, 2111, 2112, 2113, 2114, 2115, 2116] from fr_rf) ((frp_rf : frp p p []) 8 (by decide)) hY4 (by decide) (by decide)) (by omega), (by omega)⟩)
set_option maxRecDepth 100000 in
set_option maxHeartbeats 4000000 in
theorem e_beginData {g : Nat → Int} {Zi : Nat → Option (Nat × (Nat → Int))} {d n q : Nat} {D : Nat → Nat × Nat} {s : Nat → Int} {p : Nat → Nat} {c : Nat → Nat → Int} (hd : 0 ≤ d) (hz : zk Zi) (hq : q + 0 ≤ 400000) (hD : wd n p) (hS : bS s) (hC : bC D c) (hW : wp q g n D p s)  : tt Zi d 31 (0, [some (.inr (.inl 20))], [], n, D, s, p, c) (fun R H => ∃ (s' : Nat → Int), R = .inl none ∧ H = (n, D, s', p, c) ∧ bS s' ∧ wp q g n D p s' ∧ fr s s' [2002, 2003] ∧ (s' 2002 = 0 ∧ s' 2003 = 0)) := by
  refine tt_k 6 (S' := (10, [some (.inr (.inl 20))], [], n, D, (us (us s 2002 0) 2003 0), p, c)) rfl ?_
  exact tt_rtv rfl rfl ⟨(us (us s 2002 0) 2003 0), rfl, rfl, (bS_us (bS_us hS (show 0 ≤ 0 ∧ 0 ≤ 255 by omega)) (show 0 ≤ 0 ∧ 0 ≤ 8 by omega)), (wp_us (by decide) (wp_us (by decide) hW)), (fr_us (by decide) (fr_us (by decide) fr_rf)), ⟨rfl, rfl⟩⟩
set_option maxRecDepth 100000 in
set_option maxHeartbeats 4000000 in
theorem e_endData {g : Nat → Int} {Zi : Nat → Option (Nat × (Nat → Int))} {d n q : Nat} {D : Nat → Nat × Nat} {s : Nat → Int} {p : Nat → Nat} {c : Nat → Nat → Int} (hd : 0 ≤ d) (hz : zk Zi) (hq : q + 0 ≤ 400000) (hD : wd n p) (hS : bS s) (hC : bC D c) (hW : wp q g n D p s) (hp0 : s 2001 ≤ 32768) : tt Zi d 78 (0, [some (.inr (.inl 20))], [], n, D, s, p, c) (fun R H => ∃ (s' : Nat → Int), R = .inl none ∧ H = (n, D, s', p, c) ∧ bS s' ∧ wp q g n D p s' ∧ fr s s' [2001] ∧ (s' 2001 = if s 2002 = 255 then s 2001 + 1 else s 2001)) := by
  refine tt_k 3 (S' := (7, [some (.inr (.inl 20))], [.inl 255, .inl (s 2002)], n, D, s, p, c)) rfl ?_
  have b1 : 0 ≤ (s 2002) ∧ (s 2002) ≤ 255 := hS 2002
  refine tb_ne (x := (s 2002)) (y := 255) rfl rfl (by omega) (fun h2 => ?_) (fun h2 => ?_)
  · show tt Zi d 78 (20, [some (.inr (.inl 20))], [], n, D, s, p, c) _
    exact tt_rtv rfl rfl ⟨s, rfl, rfl, hS, hW, fr_rf, by show (s 2001) = if s 2002 = 255 then s 2001 + 1 else s 2001; first | rw [if_pos (by omega)] | rw [if_neg (by omega)]⟩
  · show tt Zi d 78 (10, [some (.inr (.inl 20))], [], n, D, s, p, c) _
    refine tt_k 6 (S' := (20, [some (.inr (.inl 20))], [], n, D, (us s 2001 ((s 2001) + 1)), p, c)) rfl ?_
    have b3 : 0 ≤ (s 2001) ∧ (s 2001) ≤ 100000 := hS 2001
    exact tt_rtv rfl rfl ⟨(us s 2001 ((s 2001) + 1)), rfl, rfl, (bS_us hS (show 0 ≤ ((s 2001) + 1) ∧ ((s 2001) + 1) ≤ 100000 by omega)), (wp_us (by decide) hW), (fr_us (by decide) fr_rf), by show ((s 2001) + 1) = if s 2002 = 255 then s 2001 + 1 else s 2001; first | rw [if_pos (by omega)] | rw [if_neg (by omega)]⟩
set_option maxRecDepth 100000 in
set_option maxHeartbeats 4000000 in
theorem e_openByte {g : Nat → Int} {Zi : Nat → Option (Nat × (Nat → Int))} {d n q : Nat} {D : Nat → Nat × Nat} {s : Nat → Int} {p : Nat → Nat} {c : Nat → Nat → Int} (hd : 4 ≤ d) (hz : zk Zi) (hq : q + 8 ≤ 400000) (hD : wd n p) (hS : bS s) (hC : bC D c) (hW : wp q g n D p s) (A : TN) (hp0 : tpl A (s 601) (c (p 600))) : tt Zi d 58 (0, [some (.inr (.inl 20)), none, none, none], [], n, D, s, p, c) (fun R H => (∃ (s' : Nat → Int), R = .inl none ∧ H = (n, D, s', p, c) ∧ bS s' ∧ wp q g n D p s' ∧ fr s s' [2001, 2002, 2003] ∧ (1 ≤ s' 2003 ∧ s' 2003 ≤ 8 ∧ 0 ≤ s' 2002 ∧ s' 2002 ≤ 255) ∧ (rdOpen A (s 2001, s 2002, s 2003) = some (s' 2001, s' 2002, s' 2003)) ∧ (s' 2001 ≤ s 601)) ∨ (R = .inr 12 ∧ cXp ((q + 1)) g s p c [] [800, 801, 802, 803, 804, 805, 806, 807, 808, 809, 902, 1705, 1706, 2001, 2002, 2003, 2004, 2005, 2006, 2106, 2107, 2108, 2109, 2110, 2111, 2112, 2113, 2114, 2115, 2116] H ∧ (rdOpen A (s 2001, s 2002, s 2003) = none))) := by
  have b1 : 0 ≤ (s 601) ∧ (s 601) ≤ 32768 := hS 601
  have b2 : 0 ≤ (s 2001) ∧ (s 2001) ≤ 100000 := hS 2001
  have hA := hp0.1
  have b3 : 0 ≤ (s 2002) ∧ (s 2002) ≤ 255 := hS 2002
  have b4 : 0 ≤ (s 2003) ∧ (s 2003) ≤ 8 := hS 2003
  refine tt_k 5 (S' := (11, [some (.inr (.inl 20)), none, none, none], [.inl (s 601), .inl (s 2001)], n, D, s, p, c)) rfl ?_
  refine tb_lt (x := (s 2001)) (y := (s 601)) rfl rfl (by omega) (fun h5 => ?_) (fun h5 => ?_)
  · show tt Zi d 58 (18, [some (.inr (.inl 20)), none, none, none], [], n, D, s, p, c) _
    refine tt_k 3 (S' := (21, [some (.inr (.inl 20)), some (.inl 0), none, none], [.inl 0], n, D, s, p, c)) rfl ?_
    refine tz_ne (x := 0) rfl rfl (by omega) (fun h6 => ?_) (fun h6 => ?_)
    · exfalso; omega
    · show tt Zi d 58 (24, [some (.inr (.inl 20)), some (.inl 0), none, none], [], n, D, s, p, c) _
      refine tt_k 4 (S' := (32, [some (.inr (.inl 20)), some (.inl 0), none, none], [.inl (s 2001), .inr (.inl 6)], n, D, s, p, c)) rfl ?_
      have b7 := wp_l6 hW
      have b8 := (hW).c6
      refine tt_cl (by omega) rfl (e_get6 (Zi := Zi) (q := q) (n := n) (D := D) (s := s) (p := p) (c := c) (by omega) hz (by omega) hD hS hC hW (s 2001) (by omega) (show 0 ≤ (s 2001) ∧ (s 2001) < (ln D (p 600) : Int) by omega)) ?_
      rintro _ _ ⟨r9, rfl, rfl, b10, k11⟩
      show tt Zi d 58 (35, [some (.inr (.inl 20)), some (.inl 0), none, none], [.inl r9], n, D, s, p, c) _
      have ha12 := tp_at (a := (s 2001)) hp0 (by omega) k11
      refine tt_k 1 (S' := (38, [some (.inr (.inl 20)), some (.inl 0), none, none], [.inl 255, .inl r9], n, D, s, p, c)) rfl ?_
      refine tb_ne (x := r9) (y := 255) rfl rfl (by omega) (fun h13 => ?_) (fun h13 => ?_)
      · show tt Zi d 58 (45, [some (.inr (.inl 20)), some (.inl 0), none, none], [], n, D, s, p, c) _
        refine tt_k 3 (S' := (48, [some (.inr (.inl 20)), some (.inl 0), some (.inl 0), none], [.inl 0], n, D, s, p, c)) rfl ?_
        refine tz_ne (x := 0) rfl rfl (by omega) (fun h14 => ?_) (fun h14 => ?_)
        · exfalso; omega
        · show tt Zi d 58 (51, [some (.inr (.inl 20)), some (.inl 0), some (.inl 0), none], [], n, D, s, p, c) _
          refine tt_k 1 (S' := (52, [some (.inr (.inl 20)), some (.inl 0), some (.inl 0), none], [.inl 0], n, D, s, p, c)) rfl ?_
          refine tz_eq (x := 0) rfl rfl (by omega) (fun h15 => ?_) (fun h15 => ?_)
          · show tt Zi d 58 (75, [some (.inr (.inl 20)), some (.inl 0), some (.inl 0), none], [], n, D, s, p, c) _
            refine tt_k 3 (S' := (78, [some (.inr (.inl 20)), some (.inl 0), some (.inl 0), some (.inl 0)], [.inl 0], n, D, s, p, c)) rfl ?_
            refine tz_ne (x := 0) rfl rfl (by omega) (fun h16 => ?_) (fun h16 => ?_)
            · exfalso; omega
            · show tt Zi d 58 (81, [some (.inr (.inl 20)), some (.inl 0), some (.inl 0), some (.inl 0)], [], n, D, s, p, c) _
              refine tt_k 1 (S' := (82, [some (.inr (.inl 20)), some (.inl 0), some (.inl 0), some (.inl 0)], [.inl 0], n, D, s, p, c)) rfl ?_
              refine tz_eq (x := 0) rfl rfl (by omega) (fun h17 => ?_) (fun h17 => ?_)
              · show tt Zi d 58 (148, [some (.inr (.inl 20)), some (.inl 0), some (.inl 0), some (.inl 0)], [], n, D, s, p, c) _
                refine tt_k 4 (S' := (156, [some (.inr (.inl 20)), some (.inl 0), some (.inl 0), some (.inl 0)], [.inl 255, .inl (s 2002), .inr (.inl 20)], n, D, s, p, c)) rfl ?_
                refine tb_ne (x := (s 2002)) (y := 255) rfl rfl (by omega) (fun h18 => ?_) (fun h18 => ?_)
                · show tt Zi d 58 (164, [some (.inr (.inl 20)), some (.inl 0), some (.inl 0), some (.inl 0)], [.inr (.inl 20)], n, D, s, p, c) _
                  refine tt_k 7 (S' := (178, [some (.inr (.inl 20)), some (.inl 0), some (.inl 0), some (.inl 0)], [.inl (s 2001), .inr (.inl 6), .inr (.inl 20)], n, D, (us s 2003 8), p, c)) rfl ?_
                  have b19 := (hW).c6
                  refine tt_cl (by omega) rfl (e_get6 (Zi := Zi) (q := q) (n := n) (D := D) (s := (us s 2003 8)) (p := p) (c := c) (by omega) hz (by omega) hD (bS_us hS (show 0 ≤ 8 ∧ 8 ≤ 8 by omega)) hC (wp_us (by decide) hW) (s 2001) (by omega) (show 0 ≤ (s 2001) ∧ (s 2001) < (ln D (p 600) : Int) by omega)) ?_
                  rintro _ _ ⟨r20, rfl, rfl, b21, k22⟩
                  show tt Zi d 58 (181, [some (.inr (.inl 20)), some (.inl 0), some (.inl 0), some (.inl 0)], [.inl r20, .inr (.inl 20)], n, D, (us s 2003 8), p, c) _
                  have ha23 := tp_at (a := (s 2001)) hp0 (by omega) k22
                  refine tt_k 7 (S' := (194, [some (.inr (.inl 20)), some (.inl 0), some (.inl 0), some (.inl 0)], [], n, D, (us (us (us s 2003 8) 2002 r20) 2001 ((s 2001) + 1)), p, c)) rfl ?_
                  exact tt_rtv rfl rfl (Or.inl ⟨(us (us (us s 2003 8) 2002 r20) 2001 ((s 2001) + 1)), rfl, rfl, (bS_us (bS_us (bS_us hS (show 0 ≤ 8 ∧ 8 ≤ 8 by omega)) (show 0 ≤ r20 ∧ r20 ≤ 255 by omega)) (show 0 ≤ ((s 2001) + 1) ∧ ((s 2001) + 1) ≤ 100000 by omega)), (wp_us (by decide) (wp_us (by decide) (wp_us (by decide) hW))), (fr_us (by decide) (fr_us (by decide) (fr_us (by decide) fr_rf))), by show 1 ≤ 8 ∧ 8 ≤ 8 ∧ 0 ≤ r20 ∧ r20 ≤ 255; omega, by show rdOpen A (s 2001, s 2002, s 2003) = some (((s 2001) + 1), r20, 8); unfold rdOpen; show (if s 2001 < A.2 then (if A.1 (s 2001).toNat = 255 then (if s 2001 + 1 < A.2 then (if A.1 (s 2001 + 1).toNat < 128 then some (s 2001 + 1, A.1 (s 2001).toNat, (if s 2002 = 255 then (7 : Int) else 8)) else none) else none) else some (s 2001 + 1, A.1 (s 2001).toNat, (if s 2002 = 255 then (7 : Int) else 8))) else none) = _; (repeat' split) <;> first | (exfalso; omega) | exact so3 (by omega) (by omega) (by omega), by show ((s 2001) + 1) ≤ s 601; omega⟩)
                · show tt Zi d 58 (159, [some (.inr (.inl 20)), some (.inl 0), some (.inl 0), some (.inl 0)], [.inr (.inl 20)], n, D, s, p, c) _
                  refine tt_k 8 (S' := (178, [some (.inr (.inl 20)), some (.inl 0), some (.inl 0), some (.inl 0)], [.inl (s 2001), .inr (.inl 6), .inr (.inl 20)], n, D, (us s 2003 7), p, c)) rfl ?_
                  have b24 := (hW).c6
                  refine tt_cl (by omega) rfl (e_get6 (Zi := Zi) (q := q) (n := n) (D := D) (s := (us s 2003 7)) (p := p) (c := c) (by omega) hz (by omega) hD (bS_us hS (show 0 ≤ 7 ∧ 7 ≤ 8 by omega)) hC (wp_us (by decide) hW) (s 2001) (by omega) (show 0 ≤ (s 2001) ∧ (s 2001) < (ln D (p 600) : Int) by omega)) ?_
                  rintro _ _ ⟨r25, rfl, rfl, b26, k27⟩
                  show tt Zi d 58 (181, [some (.inr (.inl 20)), some (.inl 0), some (.inl 0), some (.inl 0)], [.inl r25, .inr (.inl 20)], n, D, (us s 2003 7), p, c) _
                  have ha28 := tp_at (a := (s 2001)) hp0 (by omega) k27
                  refine tt_k 7 (S' := (194, [some (.inr (.inl 20)), some (.inl 0), some (.inl 0), some (.inl 0)], [], n, D, (us (us (us s 2003 7) 2002 r25) 2001 ((s 2001) + 1)), p, c)) rfl ?_
                  exact tt_rtv rfl rfl (Or.inl ⟨(us (us (us s 2003 7) 2002 r25) 2001 ((s 2001) + 1)), rfl, rfl, (bS_us (bS_us (bS_us hS (show 0 ≤ 7 ∧ 7 ≤ 8 by omega)) (show 0 ≤ r25 ∧ r25 ≤ 255 by omega)) (show 0 ≤ ((s 2001) + 1) ∧ ((s 2001) + 1) ≤ 100000 by omega)), (wp_us (by decide) (wp_us (by decide) (wp_us (by decide) hW))), (fr_us (by decide) (fr_us (by decide) (fr_us (by decide) fr_rf))), by show 1 ≤ 7 ∧ 7 ≤ 8 ∧ 0 ≤ r25 ∧ r25 ≤ 255; omega, by show rdOpen A (s 2001, s 2002, s 2003) = some (((s 2001) + 1), r25, 7); unfold rdOpen; show (if s 2001 < A.2 then (if A.1 (s 2001).toNat = 255 then (if s 2001 + 1 < A.2 then (if A.1 (s 2001 + 1).toNat < 128 then some (s 2001 + 1, A.1 (s 2001).toNat, (if s 2002 = 255 then (7 : Int) else 8)) else none) else none) else some (s 2001 + 1, A.1 (s 2001).toNat, (if s 2002 = 255 then (7 : Int) else 8))) else none) = _; (repeat' split) <;> first | (exfalso; omega) | exact so3 (by omega) (by omega) (by omega), by show ((s 2001) + 1) ≤ s 601; omega⟩)
              · exfalso; omega
          · exfalso; omega
      · show tt Zi d 58 (41, [some (.inr (.inl 20)), some (.inl 0), none, none], [], n, D, s, p, c) _
        refine tt_k 4 (S' := (48, [some (.inr (.inl 20)), some (.inl 0), some (.inl 1), none], [.inl 0], n, D, s, p, c)) rfl ?_
        refine tz_ne (x := 0) rfl rfl (by omega) (fun h29 => ?_) (fun h29 => ?_)
        · exfalso; omega
        · show tt Zi d 58 (51, [some (.inr (.inl 20)), some (.inl 0), some (.inl 1), none], [], n, D, s, p, c) _
          refine tt_k 1 (S' := (52, [some (.inr (.inl 20)), some (.inl 0), some (.inl 1), none], [.inl 1], n, D, s, p, c)) rfl ?_
          refine tz_eq (x := 1) rfl rfl (by omega) (fun h30 => ?_) (fun h30 => ?_)
          · exfalso; omega
          · show tt Zi d 58 (55, [some (.inr (.inl 20)), some (.inl 0), some (.inl 1), none], [], n, D, s, p, c) _
            refine tt_k 7 (S' := (68, [some (.inr (.inl 20)), some (.inl 0), some (.inl 1), none], [.inl (s 601), .inl ((s 2001) + 1)], n, D, s, p, c)) rfl ?_
            refine tb_lt (x := ((s 2001) + 1)) (y := (s 601)) rfl rfl (by omega) (fun h31 => ?_) (fun h31 => ?_)
            · show tt Zi d 58 (75, [some (.inr (.inl 20)), some (.inl 0), some (.inl 1), none], [], n, D, s, p, c) _
              refine tt_k 3 (S' := (78, [some (.inr (.inl 20)), some (.inl 0), some (.inl 1), some (.inl 0)], [.inl 0], n, D, s, p, c)) rfl ?_
              refine tz_ne (x := 0) rfl rfl (by omega) (fun h32 => ?_) (fun h32 => ?_)
              · exfalso; omega
              · show tt Zi d 58 (81, [some (.inr (.inl 20)), some (.inl 0), some (.inl 1), some (.inl 0)], [], n, D, s, p, c) _
                refine tt_k 1 (S' := (82, [some (.inr (.inl 20)), some (.inl 0), some (.inl 1), some (.inl 0)], [.inl 1], n, D, s, p, c)) rfl ?_
                refine tz_eq (x := 1) rfl rfl (by omega) (fun h33 => ?_) (fun h33 => ?_)
                · exfalso; omega
                · show tt Zi d 58 (85, [some (.inr (.inl 20)), some (.inl 0), some (.inl 1), some (.inl 0)], [], n, D, s, p, c) _
                  refine tt_k 6 (S' := (95, [some (.inr (.inl 20)), some (.inl 0), some (.inl 1), some (.inl 0)], [.inl ((s 2001) + 1), .inr (.inl 6)], n, D, s, p, c)) rfl ?_
                  have b34 := (hW).c6
                  refine tt_cl (by omega) rfl (e_get6 (Zi := Zi) (q := q) (n := n) (D := D) (s := s) (p := p) (c := c) (by omega) hz (by omega) hD hS hC hW ((s 2001) + 1) (by omega) (show 0 ≤ ((s 2001) + 1) ∧ ((s 2001) + 1) < (ln D (p 600) : Int) by omega)) ?_
                  rintro _ _ ⟨r35, rfl, rfl, b36, k37⟩
                  show tt Zi d 58 (98, [some (.inr (.inl 20)), some (.inl 0), some (.inl 1), some (.inl 0)], [.inl r35], n, D, s, p, c) _
                  have ha38 := tp_at (a := ((s 2001) + 1)) hp0 (by omega) k37
                  refine tt_k 1 (S' := (101, [some (.inr (.inl 20)), some (.inl 0), some (.inl 1), some (.inl 0)], [.inl 128, .inl r35], n, D, s, p, c)) rfl ?_
                  refine tb_lt (x := r35) (y := 128) rfl rfl (by omega) (fun h39 => ?_) (fun h39 => ?_)
                  · show tt Zi d 58 (148, [some (.inr (.inl 20)), some (.inl 0), some (.inl 1), some (.inl 0)], [], n, D, s, p, c) _
                    refine tt_k 4 (S' := (156, [some (.inr (.inl 20)), some (.inl 0), some (.inl 1), some (.inl 0)], [.inl 255, .inl (s 2002), .inr (.inl 20)], n, D, s, p, c)) rfl ?_
                    refine tb_ne (x := (s 2002)) (y := 255) rfl rfl (by omega) (fun h40 => ?_) (fun h40 => ?_)
                    · show tt Zi d 58 (164, [some (.inr (.inl 20)), some (.inl 0), some (.inl 1), some (.inl 0)], [.inr (.inl 20)], n, D, s, p, c) _
                      refine tt_k 7 (S' := (178, [some (.inr (.inl 20)), some (.inl 0), some (.inl 1), some (.inl 0)], [.inl (s 2001), .inr (.inl 6), .inr (.inl 20)], n, D, (us s 2003 8), p, c)) rfl ?_
                      have b41 := (hW).c6
                      refine tt_cl (by omega) rfl (e_get6 (Zi := Zi) (q := q) (n := n) (D := D) (s := (us s 2003 8)) (p := p) (c := c) (by omega) hz (by omega) hD (bS_us hS (show 0 ≤ 8 ∧ 8 ≤ 8 by omega)) hC (wp_us (by decide) hW) (s 2001) (by omega) (show 0 ≤ (s 2001) ∧ (s 2001) < (ln D (p 600) : Int) by omega)) ?_
                      rintro _ _ ⟨r42, rfl, rfl, b43, k44⟩
                      show tt Zi d 58 (181, [some (.inr (.inl 20)), some (.inl 0), some (.inl 1), some (.inl 0)], [.inl r42, .inr (.inl 20)], n, D, (us s 2003 8), p, c) _
                      have ha45 := tp_at (a := (s 2001)) hp0 (by omega) k44
                      refine tt_k 7 (S' := (194, [some (.inr (.inl 20)), some (.inl 0), some (.inl 1), some (.inl 0)], [], n, D, (us (us (us s 2003 8) 2002 r42) 2001 ((s 2001) + 1)), p, c)) rfl ?_
                      exact tt_rtv rfl rfl (Or.inl ⟨(us (us (us s 2003 8) 2002 r42) 2001 ((s 2001) + 1)), rfl, rfl, (bS_us (bS_us (bS_us hS (show 0 ≤ 8 ∧ 8 ≤ 8 by omega)) (show 0 ≤ r42 ∧ r42 ≤ 255 by omega)) (show 0 ≤ ((s 2001) + 1) ∧ ((s 2001) + 1) ≤ 100000 by omega)), (wp_us (by decide) (wp_us (by decide) (wp_us (by decide) hW))), (fr_us (by decide) (fr_us (by decide) (fr_us (by decide) fr_rf))), by show 1 ≤ 8 ∧ 8 ≤ 8 ∧ 0 ≤ r42 ∧ r42 ≤ 255; omega, by show rdOpen A (s 2001, s 2002, s 2003) = some (((s 2001) + 1), r42, 8); unfold rdOpen; show (if s 2001 < A.2 then (if A.1 (s 2001).toNat = 255 then (if s 2001 + 1 < A.2 then (if A.1 (s 2001 + 1).toNat < 128 then some (s 2001 + 1, A.1 (s 2001).toNat, (if s 2002 = 255 then (7 : Int) else 8)) else none) else none) else some (s 2001 + 1, A.1 (s 2001).toNat, (if s 2002 = 255 then (7 : Int) else 8))) else none) = _; (repeat' split) <;> first | (exfalso; omega) | exact so3 (by omega) (by omega) (by omega), by show ((s 2001) + 1) ≤ s 601; omega⟩)
                    · show tt Zi d 58 (159, [some (.inr (.inl 20)), some (.inl 0), some (.inl 1), some (.inl 0)], [.inr (.inl 20)], n, D, s, p, c) _
                      refine tt_k 8 (S' := (178, [some (.inr (.inl 20)), some (.inl 0), some (.inl 1), some (.inl 0)], [.inl (s 2001), .inr (.inl 6), .inr (.inl 20)], n, D, (us s 2003 7), p, c)) rfl ?_
                      have b46 := (hW).c6
                      refine tt_cl (by omega) rfl (e_get6 (Zi := Zi) (q := q) (n := n) (D := D) (s := (us s 2003 7)) (p := p) (c := c) (by omega) hz (by omega) hD (bS_us hS (show 0 ≤ 7 ∧ 7 ≤ 8 by omega)) hC (wp_us (by decide) hW) (s 2001) (by omega) (show 0 ≤ (s 2001) ∧ (s 2001) < (ln D (p 600) : Int) by omega)) ?_
                      rintro _ _ ⟨r47, rfl, rfl, b48, k49⟩
                      show tt Zi d 58 (181, [some (.inr (.inl 20)), some (.inl 0), some (.inl 1), some (.inl 0)], [.inl r47, .inr (.inl 20)], n, D, (us s 2003 7), p, c) _
                      have ha50 := tp_at (a := (s 2001)) hp0 (by omega) k49
                      refine tt_k 7 (S' := (194, [some (.inr (.inl 20)), some (.inl 0), some (.inl 1), some (.inl 0)], [], n, D, (us (us (us s 2003 7) 2002 r47) 2001 ((s 2001) + 1)), p, c)) rfl ?_
                      exact tt_rtv rfl rfl (Or.inl ⟨(us (us (us s 2003 7) 2002 r47) 2001 ((s 2001) + 1)), rfl, rfl, (bS_us (bS_us (bS_us hS (show 0 ≤ 7 ∧ 7 ≤ 8 by omega)) (show 0 ≤ r47 ∧ r47 ≤ 255 by omega)) (show 0 ≤ ((s 2001) + 1) ∧ ((s 2001) + 1) ≤ 100000 by omega)), (wp_us (by decide) (wp_us (by decide) (wp_us (by decide) hW))), (fr_us (by decide) (fr_us (by decide) (fr_us (by decide) fr_rf))), by show 1 ≤ 7 ∧ 7 ≤ 8 ∧ 0 ≤ r47 ∧ r47 ≤ 255; omega, by show rdOpen A (s 2001, s 2002, s 2003) = some (((s 2001) + 1), r47, 7); unfold rdOpen; show (if s 2001 < A.2 then (if A.1 (s 2001).toNat = 255 then (if s 2001 + 1 < A.2 then (if A.1 (s 2001 + 1).toNat < 128 then some (s 2001 + 1, A.1 (s 2001).toNat, (if s 2002 = 255 then (7 : Int) else 8)) else none) else none) else some (s 2001 + 1, A.1 (s 2001).toNat, (if s 2002 = 255 then (7 : Int) else 8))) else none) = _; (repeat' split) <;> first | (exfalso; omega) | exact so3 (by omega) (by omega) (by omega), by show ((s 2001) + 1) ≤ s 601; omega⟩)
                  · show tt Zi d 58 (104, [some (.inr (.inl 20)), some (.inl 0), some (.inl 1), some (.inl 0)], [], n, D, s, p, c) _
                    refine tt_k 2 (S' := (106, [some (.inr (.inl 20)), some (.inl 0), some (.inl 1), some (.inl 0)], [.inl 0, .inr (.inl 20)], n, D, s, p, c)) rfl ?_
                    refine tz_eq (x := 0) rfl rfl (by omega) (fun h51 => ?_) (fun h51 => ?_)
                    · show tt Zi d 58 (113, [some (.inr (.inl 20)), some (.inl 0), some (.inl 1), some (.inl 0)], [.inr (.inl 20)], n, D, s, p, c) _
                      refine tt_k 4 (S' := (120, [some (.inr (.inl 20)), some (.inl 0), some (.inl 1), some (.inl 0)], [.inl 0, .inr (.inl 20)], n, D, (us s 2005 7), p, c)) rfl ?_
                      refine tz_eq (x := 0) rfl rfl (by omega) (fun h52 => ?_) (fun h52 => ?_)
                      · show tt Zi d 58 (133, [some (.inr (.inl 20)), some (.inl 0), some (.inl 1), some (.inl 0)], [.inr (.inl 20)], n, D, (us s 2005 7), p, c) _
                        refine tt_k 3 (S' := (140, [some (.inr (.inl 20)), some (.inl 0), some (.inl 1), some (.inl 0)], [], n, D, (us (us s 2005 7) 2006 (s 2001)), p, c)) rfl ?_
                        have hn53 := wp_n hW (by omega)
                        exact tt_thr (q := (12, 497)) rfl rfl (by decide) (by decide) (by omega) (by omega) (Or.inr ⟨rfl, cXp_mono (q := q + 1) ⟨⟨(bS_us (bS_us hS (show 0 ≤ 7 ∧ 7 ≤ 8 by omega)) (show -1 ≤ (s 2001) ∧ (s 2001) ≤ 100000 by omega)), bC_x hC (hW).dz (by decide), wp_x (wp_us (by decide) (wp_us (by decide) hW)), fk_x (fk_rf hD), (show fr s (us (us s 2005 7) 2006 (s 2001)) [800, 801, 802, 803, 804, 805, 806, 807, 808, 809, 902, 1705, 1706, 2001, 2002, 2003, 2004, 2005, 2006, 2106, 2107, 2108, 2109, 2110, 2111, 2112, 2113, 2114, 2115, 2116] from (fr_us (by decide) (fr_us (by decide) fr_rf)))⟩, ((frp_rf : frp p p []) 8 (by decide))⟩ (by omega), (by unfold rdOpen; show (if s 2001 < A.2 then (if A.1 (s 2001).toNat = 255 then (if s 2001 + 1 < A.2 then (if A.1 (s 2001 + 1).toNat < 128 then some (s 2001 + 1, A.1 (s 2001).toNat, (if s 2002 = 255 then (7 : Int) else 8)) else none) else none) else some (s 2001 + 1, A.1 (s 2001).toNat, (if s 2002 = 255 then (7 : Int) else 8))) else none) = _; (repeat' split) <;> first | rfl | (exfalso; omega))⟩)
                      · exfalso; omega
                    · exfalso; omega
            · show tt Zi d 58 (71, [some (.inr (.inl 20)), some (.inl 0), some (.inl 1), none], [], n, D, s, p, c) _
              refine tt_k 4 (S' := (78, [some (.inr (.inl 20)), some (.inl 0), some (.inl 1), some (.inl 1)], [.inl 1], n, D, s, p, c)) rfl ?_
              refine tz_ne (x := 1) rfl rfl (by omega) (fun h54 => ?_) (fun h54 => ?_)
              · show tt Zi d 58 (104, [some (.inr (.inl 20)), some (.inl 0), some (.inl 1), some (.inl 1)], [], n, D, s, p, c) _
                refine tt_k 2 (S' := (106, [some (.inr (.inl 20)), some (.inl 0), some (.inl 1), some (.inl 1)], [.inl 1, .inr (.inl 20)], n, D, s, p, c)) rfl ?_
                refine tz_eq (x := 1) rfl rfl (by omega) (fun h55 => ?_) (fun h55 => ?_)
                · exfalso; omega
                · show tt Zi d 58 (109, [some (.inr (.inl 20)), some (.inl 0), some (.inl 1), some (.inl 1)], [.inr (.inl 20)], n, D, s, p, c) _
                  refine tt_k 5 (S' := (120, [some (.inr (.inl 20)), some (.inl 0), some (.inl 1), some (.inl 1)], [.inl 1, .inr (.inl 20)], n, D, (us s 2005 1), p, c)) rfl ?_
                  refine tz_eq (x := 1) rfl rfl (by omega) (fun h56 => ?_) (fun h56 => ?_)
                  · exfalso; omega
                  · show tt Zi d 58 (123, [some (.inr (.inl 20)), some (.inl 0), some (.inl 1), some (.inl 1)], [.inr (.inl 20)], n, D, (us s 2005 1), p, c) _
                    refine tt_k 5 (S' := (140, [some (.inr (.inl 20)), some (.inl 0), some (.inl 1), some (.inl 1)], [], n, D, (us (us s 2005 1) 2006 (s 601)), p, c)) rfl ?_
                    have hn57 := wp_n hW (by omega)
                    exact tt_thr (q := (12, 497)) rfl rfl (by decide) (by decide) (by omega) (by omega) (Or.inr ⟨rfl, cXp_mono (q := q + 1) ⟨⟨(bS_us (bS_us hS (show 0 ≤ 1 ∧ 1 ≤ 8 by omega)) (show -1 ≤ (s 601) ∧ (s 601) ≤ 100000 by omega)), bC_x hC (hW).dz (by decide), wp_x (wp_us (by decide) (wp_us (by decide) hW)), fk_x (fk_rf hD), (show fr s (us (us s 2005 1) 2006 (s 601)) [800, 801, 802, 803, 804, 805, 806, 807, 808, 809, 902, 1705, 1706, 2001, 2002, 2003, 2004, 2005, 2006, 2106, 2107, 2108, 2109, 2110, 2111, 2112, 2113, 2114, 2115, 2116] from (fr_us (by decide) (fr_us (by decide) fr_rf)))⟩, ((frp_rf : frp p p []) 8 (by decide))⟩ (by omega), (by unfold rdOpen; show (if s 2001 < A.2 then (if A.1 (s 2001).toNat = 255 then (if s 2001 + 1 < A.2 then (if A.1 (s 2001 + 1).toNat < 128 then some (s 2001 + 1, A.1 (s 2001).toNat, (if s 2002 = 255 then (7 : Int) else 8)) else none) else none) else some (s 2001 + 1, A.1 (s 2001).toNat, (if s 2002 = 255 then (7 : Int) else 8))) else none) = _; (repeat' split) <;> first | rfl | (exfalso; omega))⟩)
              · exfalso; omega
  · show tt Zi d 58 (14, [some (.inr (.inl 20)), none, none, none], [], n, D, s, p, c) _
    refine tt_k 4 (S' := (21, [some (.inr (.inl 20)), some (.inl 1), none, none], [.inl 1], n, D, s, p, c)) rfl ?_
    refine tz_ne (x := 1) rfl rfl (by omega) (fun h58 => ?_) (fun h58 => ?_)
    · show tt Zi d 58 (45, [some (.inr (.inl 20)), some (.inl 1), none, none], [], n, D, s, p, c) _
      refine tt_k 3 (S' := (48, [some (.inr (.inl 20)), some (.inl 1), some (.inl 0), none], [.inl 1], n, D, s, p, c)) rfl ?_
      refine tz_ne (x := 1) rfl rfl (by omega) (fun h59 => ?_) (fun h59 => ?_)
      · show tt Zi d 58 (71, [some (.inr (.inl 20)), some (.inl 1), some (.inl 0), none], [], n, D, s, p, c) _
        refine tt_k 4 (S' := (78, [some (.inr (.inl 20)), some (.inl 1), some (.inl 0), some (.inl 1)], [.inl 1], n, D, s, p, c)) rfl ?_
        refine tz_ne (x := 1) rfl rfl (by omega) (fun h60 => ?_) (fun h60 => ?_)
        · show tt Zi d 58 (104, [some (.inr (.inl 20)), some (.inl 1), some (.inl 0), some (.inl 1)], [], n, D, s, p, c) _
          refine tt_k 2 (S' := (106, [some (.inr (.inl 20)), some (.inl 1), some (.inl 0), some (.inl 1)], [.inl 1, .inr (.inl 20)], n, D, s, p, c)) rfl ?_
          refine tz_eq (x := 1) rfl rfl (by omega) (fun h61 => ?_) (fun h61 => ?_)
          · exfalso; omega
          · show tt Zi d 58 (109, [some (.inr (.inl 20)), some (.inl 1), some (.inl 0), some (.inl 1)], [.inr (.inl 20)], n, D, s, p, c) _
            refine tt_k 5 (S' := (120, [some (.inr (.inl 20)), some (.inl 1), some (.inl 0), some (.inl 1)], [.inl 1, .inr (.inl 20)], n, D, (us s 2005 1), p, c)) rfl ?_
            refine tz_eq (x := 1) rfl rfl (by omega) (fun h62 => ?_) (fun h62 => ?_)
            · exfalso; omega
            · show tt Zi d 58 (123, [some (.inr (.inl 20)), some (.inl 1), some (.inl 0), some (.inl 1)], [.inr (.inl 20)], n, D, (us s 2005 1), p, c) _
              refine tt_k 5 (S' := (140, [some (.inr (.inl 20)), some (.inl 1), some (.inl 0), some (.inl 1)], [], n, D, (us (us s 2005 1) 2006 (s 601)), p, c)) rfl ?_
              have hn63 := wp_n hW (by omega)
              exact tt_thr (q := (12, 497)) rfl rfl (by decide) (by decide) (by omega) (by omega) (Or.inr ⟨rfl, cXp_mono (q := q + 1) ⟨⟨(bS_us (bS_us hS (show 0 ≤ 1 ∧ 1 ≤ 8 by omega)) (show -1 ≤ (s 601) ∧ (s 601) ≤ 100000 by omega)), bC_x hC (hW).dz (by decide), wp_x (wp_us (by decide) (wp_us (by decide) hW)), fk_x (fk_rf hD), (show fr s (us (us s 2005 1) 2006 (s 601)) [800, 801, 802, 803, 804, 805, 806, 807, 808, 809, 902, 1705, 1706, 2001, 2002, 2003, 2004, 2005, 2006, 2106, 2107, 2108, 2109, 2110, 2111, 2112, 2113, 2114, 2115, 2116] from (fr_us (by decide) (fr_us (by decide) fr_rf)))⟩, ((frp_rf : frp p p []) 8 (by decide))⟩ (by omega), (by unfold rdOpen; show (if s 2001 < A.2 then (if A.1 (s 2001).toNat = 255 then (if s 2001 + 1 < A.2 then (if A.1 (s 2001 + 1).toNat < 128 then some (s 2001 + 1, A.1 (s 2001).toNat, (if s 2002 = 255 then (7 : Int) else 8)) else none) else none) else some (s 2001 + 1, A.1 (s 2001).toNat, (if s 2002 = 255 then (7 : Int) else 8))) else none) = _; (repeat' split) <;> first | rfl | (exfalso; omega))⟩)
        · exfalso; omega
      · exfalso; omega
    · exfalso; omega
