/-! the class's rows of bytes and its bit writer, exactly -/
theorem wrl_ad {W : WT} {z h r v : Int} {f g : Nat → Int} (hw : wrl W z h r f) (hz : 0 ≤ z) (h1 : ∀ i : Nat, (i : Int) < z → g i = f i) (h2 : g z.toNat = nb v) : wrl (wAdd W v) (z + 1) h r g := by
  have h3 := wrl_add (v := v) hw hz h1
  have e : ua g z.toNat (nb v) = g := by
    funext j
    by_cases hj : j = z.toNat
    · subst hj; rw [ua_eq, h2]
    · rw [ua_ne hj]
  rw [e] at h3
  exact h3
theorem wLp_1x {k v z h r b : Int} {f : Nat → Int} {R : WT} (hw : wLp k v R z h r f) (hk : 0 ≤ k) (hb : b = v / 2 ^ k.toNat % 2) (hr : r ≠ 1) : wLp (k + -1) v R z (2 * h + b) (r - 1) f := wLp_1 hw hk hb hr
theorem wLp_3 {k v z h r b : Int} {f g : Nat → Int} {R : WT} (hw : wLp k v R z h r f) (hk : 0 ≤ k) (hb : b = v / 2 ^ k.toNat % 2) (hz : 0 ≤ z) (hr : r = 1) (h1 : ∀ i : Nat, (i : Int) < z → g i = f i) (h2 : g z.toNat = nb (2 * h + b)) : wLp (k + -1) v R (z + 1) 0 (if 2 * h + b = 255 then 7 else 8) g := by
  have h3 := wLp_2 hw hk hb hz hr h1
  have e : ua g z.toNat (nb (2 * h + b)) = g := by
    funext j
    by_cases hj : j = z.toNat
    · subst hj; rw [ua_eq, h2]
    · rw [ua_ne hj]
  rw [e] at h3
  exact h3
theorem wB11 {W : WT} : wBits (1 : Int).toNat 1 W = wBit W 1 := rfl
theorem wN1c {W : WT} {m k z q : Int} (hm : 0 ≤ m ∧ m ≤ 2147483647) (hk : 0 ≤ k ∧ k ≤ 30) (h : mi_shr m k < z) : wNum W m k z q = wBits k.toNat m (wBit (wBits (mi_shr m k).toNat 0 W) 1) := by
  have e := mi_shr_div (x := m) (k := k) (by omega) hk.1 (by omega)
  rw [e] at h ⊢
  unfold wNum
  rw [if_pos h]
theorem wFn_2 {W : WT} {z h r : Int} {f : Nat → Int} (hw : wrl W z h r f) (hr : 8 ≤ r) : wrl (wFin W) z 0 8 f := by
  obtain ⟨e1, e2, e3, e4⟩ := hw
  unfold wFin
  rw [if_neg (by rw [e3]; omega)]
  exact ⟨e1, rfl, rfl, e4⟩
theorem wFn_1 {W : WT} {z h r : Int} {f g : Nat → Int} (hw : wrl W z h r f) (hz : 0 ≤ z) (hr : 0 ≤ r ∧ r < 8) (hh : 0 ≤ h ∧ h ≤ 255) (h1 : ∀ i : Nat, (i : Int) < z → g i = f i) (h2 : g z.toNat = nb (mi_shl h r)) : wrl (wFin W) (z + 1) 0 8 g := by
  obtain ⟨e1, e2, e3, e4⟩ := hw
  have hp : (2 : Int) ^ r.toNat ≤ 2 ^ 8 := mi_pw (by omega)
  have hm : h * 2 ^ r.toNat ≤ 255 * 2 ^ r.toNat := Int.mul_le_mul_of_nonneg_right hh.2 (Int.le_of_lt (Int.pow_pos (by decide)))
  have e8 : (2 : Int) ^ 8 = 256 := by decide
  rw [mi_shlg hh.1 hr.1 (by omega) (by omega)] at h2
  unfold wFin
  rw [if_pos (by rw [e3]; omega)]
  refine ⟨by show W.2.1 + 1 = z + 1; rw [e1], rfl, rfl, fun i hi => ?_⟩
  show g i = ua W.1 W.2.1.toNat (nb (W.2.2.1 * 2 ^ W.2.2.2.toNat)) i
  rw [e1, e2, e3]
  by_cases h3 : i = z.toNat
  · rw [h3, ua_eq, h2]
  · rw [ua_ne h3, h1 i (by omega), e4 i (by omega)]
set_option maxRecDepth 100000 in
set_option maxHeartbeats 4000000 in
theorem e_add4x {g : Nat → Int} {Zi : Nat → Option (Nat × (Nat → Int))} {d n q : Nat} {D : Nat → Nat × Nat} {s : Nat → Int} {p : Nat → Nat} {c : Nat → Nat → Int} (hd : 1 ≤ d) (hz : zk Zi) (hq : q + 2 ≤ 400000) (hD : wd n p) (hS : bS (us s 1602 1)) (hC : bC D c) (hW : wp q g n D p s) (v : Int) (b_v : -2147483648 ≤ v ∧ v ≤ 2147483647) (hp0 : s 401 ≤ 262143) : tt Zi d 48 (0, [some (.inr (.inl 4)), some (.inl v)], [], n, D, s, p, c) (fun R H => ∃ (n' : Nat) (D' : Nat → Nat × Nat) (s' : Nat → Int) (p' : Nat → Nat) (c' : Nat → Nat → Int), R = .inl none ∧ H = (n', D', s', p', c') ∧ bS (us s' 1602 1) ∧ bC D' c' ∧ wp q g n' D' p' s' ∧ fr s s' [401] ∧ frp p p' [400] ∧ ext n D n' D' ∧ fk p c n' p' c' [400] ∧ (s' 401 = s 401 + 1) ∧ (∀ i : Nat, (i : Int) < s 401 → c' (p' 400) i = c (p 400) i) ∧ (c' (p' 400) (s 401).toNat = nb v)) := by
  have b1 := wp_l4 hW
  have hc4 := hW.c4
  have b2 : 0 ≤ (s 401) ∧ (s 401) ≤ 262144 := hS 401
  refine tt_k 4 (S' := (8, [some (.inr (.inl 4)), some (.inl v)], [.inr (.inl (p 400)), .inl (s 401)], n, D, s, p, c)) rfl ?_
  refine tt_len (m := (ln D (p 400))) rfl ((hW).r4.1) rfl ?_
  show tt Zi d 48 (9, [some (.inr (.inl 4)), some (.inl v)], [.inl (((ln D (p 400)) : Int)), .inl (s 401)], n, D, s, p, c) _
  refine tb_ne (x := (s 401)) (y := ((ln D (p 400)) : Int)) rfl rfl (by omega) (fun h3 => ?_) (fun h3 => ?_)
  · show tt Zi d 48 (30, [some (.inr (.inl 4)), some (.inl v)], [], n, D, s, p, c) _
    refine tt_k 6 (S' := (40, [some (.inr (.inl 4)), some (.inl v)], [.inl (mi_i2b v), .inl (s 401), .inr (.inl (p 400))], n, D, s, p, c)) rfl ?_
    have e4 := mi_i2b_bd v
    refine tt_bsb (i := (s 401)) (m := (ln D (p 400))) (lo := -128) (hi := 127) (x := (mi_i2b v)) rfl ((hW).r4.1) (by omega) hC ((hW).r4.2) ⟨rfl, rfl⟩ ?_
    intro c5 hC5 ec5
    show tt Zi d 48 (41, [some (.inr (.inl 4)), some (.inl v)], [], n, D, s, p, c5) _
    have FK6 : fk p c n p c5 [400] := fk_st (k := 400) (fk_rf hD) ec5 (by decide) rfl
    refine tt_k 6 (S' := (51, [some (.inr (.inl 4)), some (.inl v)], [], n, D, (us s 401 ((s 401) + 1)), p, c5)) rfl ?_
    exact tt_rtv rfl rfl ⟨n, D, (us s 401 ((s 401) + 1)), p, c5, rfl, rfl, (us_bs (by decide) (bS_us hS (show 0 ≤ ((s 401) + 1) ∧ ((s 401) + 1) ≤ 262144 by omega))), hC5, (wp_c4 hW (show ((s 401) + 1) ≤ (ln D (p 400) : Int) by omega)), (fr_us (by decide) fr_rf), frp_rf, ext_rf, FK6, rfl, by show ∀ i : Nat, (i : Int) < s 401 → c5 (p 400) i = c (p 400) i; intro i hi; rw [ec5, uc_eq, ua_ne (by omega)], by show c5 (p 400) (s 401).toNat = nb v; rw [ec5, uc_eq, ua_eq]; rfl⟩
  · show tt Zi d 48 (12, [some (.inr (.inl 4)), some (.inl v)], [], n, D, s, p, c) _
    refine tt_k 6 (S' := (22, [some (.inr (.inl 4)), some (.inl v)], [.inr (.inl (p 400)), .inl 2, .inr (.inl (p 400)), .inr (.inl 4)], n, D, s, p, c)) rfl ?_
    refine tt_len (m := (ln D (p 400))) rfl ((hW).r4.1) rfl ?_
    show tt Zi d 48 (23, [some (.inr (.inl 4)), some (.inl v)], [.inl (((ln D (p 400)) : Int)), .inl 2, .inr (.inl (p 400)), .inr (.inl 4)], n, D, s, p, c) _
    refine tt_k 1 (S' := (24, [some (.inr (.inl 4)), some (.inl v)], [.inl ((2 * ((ln D (p 400)) : Int))), .inr (.inl (p 400)), .inr (.inl 4)], n, D, s, p, c)) rfl ?_
    have hn8 := wp_n hW (by omega)
    refine tt_cl (by omega) rfl (g_copyOf (A := (p 400)) (x := (2 * ((ln D (p 400)) : Int))) (s := s) (p := p) (hW).r4 (by omega) (by omega) (by omega) hC) ?_
    rintro _ _ ⟨c7, rfl, rfl, hC7, fc7, ec7, zc7⟩
    show tt Zi d 48 (27, [some (.inr (.inl 4)), some (.inl v)], [.inr (.inl (48 + n)), .inr (.inl 4)], (n + 1), (ud D (48 + n) (1, ((2 * ((ln D (p 400)) : Int))).toNat)), s, p, c7) _
    refine tt_k 7 (S' := (40, [some (.inr (.inl 4)), some (.inl v)], [.inl (mi_i2b v), .inl (s 401), .inr (.inl (48 + n))], (n + 1), (ud D (48 + n) (1, ((2 * ((ln D (p 400)) : Int))).toNat)), s, (up p 400 (48 + n)), c7)) rfl ?_
    have e9 := mi_i2b_bd v
    refine tt_bsb (i := (s 401)) (m := ((2 * ((ln D (p 400)) : Int))).toNat) (lo := -128) (hi := 127) (x := (mi_i2b v)) rfl (arr_nw (by omega)) (by omega) hC7 lo_nw1 ⟨rfl, rfl⟩ ?_
    intro c10 hC10 ec10
    show tt Zi d 48 (41, [some (.inr (.inl 4)), some (.inl v)], [], (n + 1), (ud D (48 + n) (1, ((2 * ((ln D (p 400)) : Int))).toNat)), s, (up p 400 (48 + n)), c10) _
    have FK11 : fk p c (n + 1) (up p 400 (48 + n)) c10 [400] := fk_st (k := 400) (fk_np (k := 400) (fk_rf hD) (by decide) ec7) ec10 (by decide) rfl
    refine tt_k 6 (S' := (51, [some (.inr (.inl 4)), some (.inl v)], [], (n + 1), (ud D (48 + n) (1, ((2 * ((ln D (p 400)) : Int))).toNat)), (us s 401 ((s 401) + 1)), (up p 400 (48 + n)), c10)) rfl ?_
    exact tt_rtv rfl rfl ⟨(n + 1), (ud D (48 + n) (1, ((2 * ((ln D (p 400)) : Int))).toNat)), (us s 401 ((s 401) + 1)), (up p 400 (48 + n)), c10, rfl, rfl, (us_bs (by decide) (bS_us hS (show 0 ≤ ((s 401) + 1) ∧ ((s 401) + 1) ≤ 262144 by omega))), hC10, (wp_c4 (wp_g4 hW (by omega) (by omega) (by omega)) (show ((s 401) + 1) ≤ (ln (ud D (48 + n) (1, ((2 * ((ln D (p 400)) : Int))).toNat)) (48 + n) : Int) by rw [ln_nw]; omega)), (fr_us (by decide) fr_rf), (frp_up (by decide) frp_rf), (ext_tr ext_rf ext_1), FK11, rfl, by show ∀ i : Nat, (i : Int) < s 401 → c10 (48 + n) i = c (p 400) i; intro i hi; rw [ec10, uc_eq, ua_ne (by omega), ec7, uc_eq]; exact zc7 i (by omega), by show c10 (48 + n) (s 401).toNat = nb v; rw [ec10, uc_eq, ua_eq]; rfl⟩
set_option maxRecDepth 100000 in
set_option maxHeartbeats 4000000 in
theorem e_add4f {g : Nat → Int} {Zi : Nat → Option (Nat × (Nat → Int))} {d n q : Nat} {D : Nat → Nat × Nat} {s : Nat → Int} {p : Nat → Nat} {c : Nat → Nat → Int} (hd : 1 ≤ d) (hz : zk Zi) (hq : q + 2 ≤ 400000) (hD : wd n p) (hS : bS s) (hC : bC D c) (hW : wp q g n D p s) (v : Int) (b_v : -2147483648 ≤ v ∧ v ≤ 2147483647) (hp0 : s 401 ≤ 262143) : tt Zi d 48 (0, [some (.inr (.inl 4)), some (.inl v)], [], n, D, s, p, c) (fun R H => ∃ (n' : Nat) (D' : Nat → Nat × Nat) (s' : Nat → Int) (p' : Nat → Nat) (c' : Nat → Nat → Int), R = .inl none ∧ H = (n', D', s', p', c') ∧ bS s' ∧ bC D' c' ∧ wp q g n' D' p' s' ∧ fr s s' [401] ∧ frp p p' [400] ∧ ext n D n' D' ∧ fk p c n' p' c' [400] ∧ (s' 401 = s 401 + 1) ∧ (∀ i : Nat, (i : Int) < s 401 → c' (p' 400) i = c (p 400) i) ∧ (c' (p' 400) (s 401).toNat = nb v)) := by
  have b1 := wp_l4 hW
  have hc4 := hW.c4
  have b2 : 0 ≤ (s 401) ∧ (s 401) ≤ 262144 := hS 401
  refine tt_k 4 (S' := (8, [some (.inr (.inl 4)), some (.inl v)], [.inr (.inl (p 400)), .inl (s 401)], n, D, s, p, c)) rfl ?_
  refine tt_len (m := (ln D (p 400))) rfl ((hW).r4.1) rfl ?_
  show tt Zi d 48 (9, [some (.inr (.inl 4)), some (.inl v)], [.inl (((ln D (p 400)) : Int)), .inl (s 401)], n, D, s, p, c) _
  refine tb_ne (x := (s 401)) (y := ((ln D (p 400)) : Int)) rfl rfl (by omega) (fun h3 => ?_) (fun h3 => ?_)
  · show tt Zi d 48 (30, [some (.inr (.inl 4)), some (.inl v)], [], n, D, s, p, c) _
    refine tt_k 6 (S' := (40, [some (.inr (.inl 4)), some (.inl v)], [.inl (mi_i2b v), .inl (s 401), .inr (.inl (p 400))], n, D, s, p, c)) rfl ?_
    have e4 := mi_i2b_bd v
    refine tt_bsb (i := (s 401)) (m := (ln D (p 400))) (lo := -128) (hi := 127) (x := (mi_i2b v)) rfl ((hW).r4.1) (by omega) hC ((hW).r4.2) ⟨rfl, rfl⟩ ?_
    intro c5 hC5 ec5
    show tt Zi d 48 (41, [some (.inr (.inl 4)), some (.inl v)], [], n, D, s, p, c5) _
    have FK6 : fk p c n p c5 [400] := fk_st (k := 400) (fk_rf hD) ec5 (by decide) rfl
    refine tt_k 6 (S' := (51, [some (.inr (.inl 4)), some (.inl v)], [], n, D, (us s 401 ((s 401) + 1)), p, c5)) rfl ?_
    exact tt_rtv rfl rfl ⟨n, D, (us s 401 ((s 401) + 1)), p, c5, rfl, rfl, (bS_us hS (show 0 ≤ ((s 401) + 1) ∧ ((s 401) + 1) ≤ 262144 by omega)), hC5, (wp_c4 hW (show ((s 401) + 1) ≤ (ln D (p 400) : Int) by omega)), (fr_us (by decide) fr_rf), frp_rf, ext_rf, FK6, rfl, by show ∀ i : Nat, (i : Int) < s 401 → c5 (p 400) i = c (p 400) i; intro i hi; rw [ec5, uc_eq, ua_ne (by omega)], by show c5 (p 400) (s 401).toNat = nb v; rw [ec5, uc_eq, ua_eq]; rfl⟩
  · show tt Zi d 48 (12, [some (.inr (.inl 4)), some (.inl v)], [], n, D, s, p, c) _
    refine tt_k 6 (S' := (22, [some (.inr (.inl 4)), some (.inl v)], [.inr (.inl (p 400)), .inl 2, .inr (.inl (p 400)), .inr (.inl 4)], n, D, s, p, c)) rfl ?_
    refine tt_len (m := (ln D (p 400))) rfl ((hW).r4.1) rfl ?_
    show tt Zi d 48 (23, [some (.inr (.inl 4)), some (.inl v)], [.inl (((ln D (p 400)) : Int)), .inl 2, .inr (.inl (p 400)), .inr (.inl 4)], n, D, s, p, c) _
    refine tt_k 1 (S' := (24, [some (.inr (.inl 4)), some (.inl v)], [.inl ((2 * ((ln D (p 400)) : Int))), .inr (.inl (p 400)), .inr (.inl 4)], n, D, s, p, c)) rfl ?_
    have hn8 := wp_n hW (by omega)
    refine tt_cl (by omega) rfl (g_copyOf (A := (p 400)) (x := (2 * ((ln D (p 400)) : Int))) (s := s) (p := p) (hW).r4 (by omega) (by omega) (by omega) hC) ?_
    rintro _ _ ⟨c7, rfl, rfl, hC7, fc7, ec7, zc7⟩
    show tt Zi d 48 (27, [some (.inr (.inl 4)), some (.inl v)], [.inr (.inl (48 + n)), .inr (.inl 4)], (n + 1), (ud D (48 + n) (1, ((2 * ((ln D (p 400)) : Int))).toNat)), s, p, c7) _
    refine tt_k 7 (S' := (40, [some (.inr (.inl 4)), some (.inl v)], [.inl (mi_i2b v), .inl (s 401), .inr (.inl (48 + n))], (n + 1), (ud D (48 + n) (1, ((2 * ((ln D (p 400)) : Int))).toNat)), s, (up p 400 (48 + n)), c7)) rfl ?_
    have e9 := mi_i2b_bd v
    refine tt_bsb (i := (s 401)) (m := ((2 * ((ln D (p 400)) : Int))).toNat) (lo := -128) (hi := 127) (x := (mi_i2b v)) rfl (arr_nw (by omega)) (by omega) hC7 lo_nw1 ⟨rfl, rfl⟩ ?_
    intro c10 hC10 ec10
    show tt Zi d 48 (41, [some (.inr (.inl 4)), some (.inl v)], [], (n + 1), (ud D (48 + n) (1, ((2 * ((ln D (p 400)) : Int))).toNat)), s, (up p 400 (48 + n)), c10) _
    have FK11 : fk p c (n + 1) (up p 400 (48 + n)) c10 [400] := fk_st (k := 400) (fk_np (k := 400) (fk_rf hD) (by decide) ec7) ec10 (by decide) rfl
    refine tt_k 6 (S' := (51, [some (.inr (.inl 4)), some (.inl v)], [], (n + 1), (ud D (48 + n) (1, ((2 * ((ln D (p 400)) : Int))).toNat)), (us s 401 ((s 401) + 1)), (up p 400 (48 + n)), c10)) rfl ?_
    exact tt_rtv rfl rfl ⟨(n + 1), (ud D (48 + n) (1, ((2 * ((ln D (p 400)) : Int))).toNat)), (us s 401 ((s 401) + 1)), (up p 400 (48 + n)), c10, rfl, rfl, (bS_us hS (show 0 ≤ ((s 401) + 1) ∧ ((s 401) + 1) ≤ 262144 by omega)), hC10, (wp_c4 (wp_g4 hW (by omega) (by omega) (by omega)) (show ((s 401) + 1) ≤ (ln (ud D (48 + n) (1, ((2 * ((ln D (p 400)) : Int))).toNat)) (48 + n) : Int) by rw [ln_nw]; omega)), (fr_us (by decide) fr_rf), (frp_up (by decide) frp_rf), (ext_tr ext_rf ext_1), FK11, rfl, by show ∀ i : Nat, (i : Int) < s 401 → c10 (48 + n) i = c (p 400) i; intro i hi; rw [ec10, uc_eq, ua_ne (by omega), ec7, uc_eq]; exact zc7 i (by omega), by show c10 (48 + n) (s 401).toNat = nb v; rw [ec10, uc_eq, ua_eq]; rfl⟩
set_option maxRecDepth 100000 in
set_option maxHeartbeats 4000000 in
theorem e_add6 {g : Nat → Int} {Zi : Nat → Option (Nat × (Nat → Int))} {d n q : Nat} {D : Nat → Nat × Nat} {s : Nat → Int} {p : Nat → Nat} {c : Nat → Nat → Int} (hd : 1 ≤ d) (hz : zk Zi) (hq : q + 2 ≤ 400000) (hD : wd n p) (hS : bS s) (hC : bC D c) (hW : wp q g n D p s) (v : Int) (b_v : -2147483648 ≤ v ∧ v ≤ 2147483647) (hp0 : s 601 ≤ 32767) : tt Zi d 48 (0, [some (.inr (.inl 6)), some (.inl v)], [], n, D, s, p, c) (fun R H => ∃ (n' : Nat) (D' : Nat → Nat × Nat) (s' : Nat → Int) (p' : Nat → Nat) (c' : Nat → Nat → Int), R = .inl none ∧ H = (n', D', s', p', c') ∧ bS s' ∧ bC D' c' ∧ wp q g n' D' p' s' ∧ fr s s' [601] ∧ frp p p' [600] ∧ ext n D n' D' ∧ fk p c n' p' c' [600] ∧ (s' 601 = s 601 + 1) ∧ (∀ i : Nat, (i : Int) < s 601 → c' (p' 600) i = c (p 600) i) ∧ (c' (p' 600) (s 601).toNat = nb v)) := by
  have b1 := wp_l6 hW
  have hc4 := hW.c6
  have b2 : 0 ≤ (s 601) ∧ (s 601) ≤ 32768 := hS 601
  refine tt_k 4 (S' := (8, [some (.inr (.inl 6)), some (.inl v)], [.inr (.inl (p 600)), .inl (s 601)], n, D, s, p, c)) rfl ?_
  refine tt_len (m := (ln D (p 600))) rfl ((hW).r6.1) rfl ?_
  show tt Zi d 48 (9, [some (.inr (.inl 6)), some (.inl v)], [.inl (((ln D (p 600)) : Int)), .inl (s 601)], n, D, s, p, c) _
  refine tb_ne (x := (s 601)) (y := ((ln D (p 600)) : Int)) rfl rfl (by omega) (fun h3 => ?_) (fun h3 => ?_)
  · show tt Zi d 48 (30, [some (.inr (.inl 6)), some (.inl v)], [], n, D, s, p, c) _
    refine tt_k 6 (S' := (40, [some (.inr (.inl 6)), some (.inl v)], [.inl (mi_i2b v), .inl (s 601), .inr (.inl (p 600))], n, D, s, p, c)) rfl ?_
    have e4 := mi_i2b_bd v
    refine tt_bsb (i := (s 601)) (m := (ln D (p 600))) (lo := -128) (hi := 127) (x := (mi_i2b v)) rfl ((hW).r6.1) (by omega) hC ((hW).r6.2) ⟨rfl, rfl⟩ ?_
    intro c5 hC5 ec5
    show tt Zi d 48 (41, [some (.inr (.inl 6)), some (.inl v)], [], n, D, s, p, c5) _
    have FK6 : fk p c n p c5 [600] := fk_st (k := 600) (fk_rf hD) ec5 (by decide) rfl
    refine tt_k 6 (S' := (51, [some (.inr (.inl 6)), some (.inl v)], [], n, D, (us s 601 ((s 601) + 1)), p, c5)) rfl ?_
    exact tt_rtv rfl rfl ⟨n, D, (us s 601 ((s 601) + 1)), p, c5, rfl, rfl, (bS_us hS (show 0 ≤ ((s 601) + 1) ∧ ((s 601) + 1) ≤ 32768 by omega)), hC5, (wp_c6 hW (show ((s 601) + 1) ≤ (ln D (p 600) : Int) by omega)), (fr_us (by decide) fr_rf), frp_rf, ext_rf, FK6, rfl, by show ∀ i : Nat, (i : Int) < s 601 → c5 (p 600) i = c (p 600) i; intro i hi; rw [ec5, uc_eq, ua_ne (by omega)], by show c5 (p 600) (s 601).toNat = nb v; rw [ec5, uc_eq, ua_eq]; rfl⟩
  · show tt Zi d 48 (12, [some (.inr (.inl 6)), some (.inl v)], [], n, D, s, p, c) _
    refine tt_k 6 (S' := (22, [some (.inr (.inl 6)), some (.inl v)], [.inr (.inl (p 600)), .inl 2, .inr (.inl (p 600)), .inr (.inl 6)], n, D, s, p, c)) rfl ?_
    refine tt_len (m := (ln D (p 600))) rfl ((hW).r6.1) rfl ?_
    show tt Zi d 48 (23, [some (.inr (.inl 6)), some (.inl v)], [.inl (((ln D (p 600)) : Int)), .inl 2, .inr (.inl (p 600)), .inr (.inl 6)], n, D, s, p, c) _
    refine tt_k 1 (S' := (24, [some (.inr (.inl 6)), some (.inl v)], [.inl ((2 * ((ln D (p 600)) : Int))), .inr (.inl (p 600)), .inr (.inl 6)], n, D, s, p, c)) rfl ?_
    have hn8 := wp_n hW (by omega)
    refine tt_cl (by omega) rfl (g_copyOf (A := (p 600)) (x := (2 * ((ln D (p 600)) : Int))) (s := s) (p := p) (hW).r6 (by omega) (by omega) (by omega) hC) ?_
    rintro _ _ ⟨c7, rfl, rfl, hC7, fc7, ec7, zc7⟩
    show tt Zi d 48 (27, [some (.inr (.inl 6)), some (.inl v)], [.inr (.inl (48 + n)), .inr (.inl 6)], (n + 1), (ud D (48 + n) (1, ((2 * ((ln D (p 600)) : Int))).toNat)), s, p, c7) _
    refine tt_k 7 (S' := (40, [some (.inr (.inl 6)), some (.inl v)], [.inl (mi_i2b v), .inl (s 601), .inr (.inl (48 + n))], (n + 1), (ud D (48 + n) (1, ((2 * ((ln D (p 600)) : Int))).toNat)), s, (up p 600 (48 + n)), c7)) rfl ?_
    have e9 := mi_i2b_bd v
    refine tt_bsb (i := (s 601)) (m := ((2 * ((ln D (p 600)) : Int))).toNat) (lo := -128) (hi := 127) (x := (mi_i2b v)) rfl (arr_nw (by omega)) (by omega) hC7 lo_nw1 ⟨rfl, rfl⟩ ?_
    intro c10 hC10 ec10
    show tt Zi d 48 (41, [some (.inr (.inl 6)), some (.inl v)], [], (n + 1), (ud D (48 + n) (1, ((2 * ((ln D (p 600)) : Int))).toNat)), s, (up p 600 (48 + n)), c10) _
    have FK11 : fk p c (n + 1) (up p 600 (48 + n)) c10 [600] := fk_st (k := 600) (fk_np (k := 600) (fk_rf hD) (by decide) ec7) ec10 (by decide) rfl
    refine tt_k 6 (S' := (51, [some (.inr (.inl 6)), some (.inl v)], [], (n + 1), (ud D (48 + n) (1, ((2 * ((ln D (p 600)) : Int))).toNat)), (us s 601 ((s 601) + 1)), (up p 600 (48 + n)), c10)) rfl ?_
    exact tt_rtv rfl rfl ⟨(n + 1), (ud D (48 + n) (1, ((2 * ((ln D (p 600)) : Int))).toNat)), (us s 601 ((s 601) + 1)), (up p 600 (48 + n)), c10, rfl, rfl, (bS_us hS (show 0 ≤ ((s 601) + 1) ∧ ((s 601) + 1) ≤ 32768 by omega)), hC10, (wp_c6 (wp_g6 hW (by omega) (by omega) (by omega)) (show ((s 601) + 1) ≤ (ln (ud D (48 + n) (1, ((2 * ((ln D (p 600)) : Int))).toNat)) (48 + n) : Int) by rw [ln_nw]; omega)), (fr_us (by decide) fr_rf), (frp_up (by decide) frp_rf), (ext_tr ext_rf ext_1), FK11, rfl, by show ∀ i : Nat, (i : Int) < s 601 → c10 (48 + n) i = c (p 600) i; intro i hi; rw [ec10, uc_eq, ua_ne (by omega), ec7, uc_eq]; exact zc7 i (by omega), by show c10 (48 + n) (s 601).toNat = nb v; rw [ec10, uc_eq, ua_eq]; rfl⟩
set_option maxRecDepth 100000 in
set_option maxHeartbeats 4000000 in
theorem e_add4 {g : Nat → Int} {Zi : Nat → Option (Nat × (Nat → Int))} {d n q : Nat} {D : Nat → Nat × Nat} {s : Nat → Int} {p : Nat → Nat} {c : Nat → Nat → Int} (hd : 1 ≤ d) (hz : zk Zi) (hq : q + 2 ≤ 400000) (hD : wd n p) (hS : bS s) (hC : bC D c) (hW : wp q g n D p s) (W : WT) (v : Int) (b_v : -2147483648 ≤ v ∧ v ≤ 2147483647) (hp0 : s 401 ≤ 262143) (hp1 : wrl W (s 401) (s 1601) (s 1602) (c (p 400))) : tt Zi d 48 (0, [some (.inr (.inl 4)), some (.inl v)], [], n, D, s, p, c) (fun R H => ∃ (n' : Nat) (D' : Nat → Nat × Nat) (s' : Nat → Int) (p' : Nat → Nat) (c' : Nat → Nat → Int), R = .inl none ∧ H = (n', D', s', p', c') ∧ bS s' ∧ bC D' c' ∧ wp q g n' D' p' s' ∧ fr s s' [401] ∧ frp p p' [400] ∧ ext n D n' D' ∧ fk p c n' p' c' [400] ∧ (s' 401 = s 401 + 1) ∧ (wrl (wAdd W v) (s' 401) (s' 1601) (s' 1602) (c' (p' 400)))) := by
  refine tt_mono (e_add4f (Zi := Zi) (q := q) (n := n) (D := D) (s := s) (p := p) (c := c) hd hz hq hD hS hC hW v b_v hp0) ?_
  rintro _ _ ⟨n1, D1, s1, p1, c1, rfl, rfl, hS1, hC1, hW1, f, fp, ex, kf, k0, k1, k2⟩
  refine ⟨n1, D1, s1, p1, c1, rfl, rfl, hS1, hC1, hW1, f, fp, ex, kf, k0, ?_⟩
  have hs0 : 0 ≤ s 401 := (hS 401).1
  rw [k0, f 1601 (by decide), f 1602 (by decide)]
  exact wrl_ad hp1 hs0 k1 k2
set_option maxRecDepth 100000 in
set_option maxHeartbeats 4000000 in
theorem e_addTwo4 {g : Nat → Int} {Zi : Nat → Option (Nat × (Nat → Int))} {d n q : Nat} {D : Nat → Nat × Nat} {s : Nat → Int} {p : Nat → Nat} {c : Nat → Nat → Int} (hd : 2 ≤ d) (hz : zk Zi) (hq : q + 4 ≤ 400000) (hD : wd n p) (hS : bS s) (hC : bC D c) (hW : wp q g n D p s) (W : WT) (v : Int) (b_v : -2147483648 ≤ v ∧ v ≤ 2147483647) (hp0 : s 401 ≤ 262142) (hp1 : wrl W (s 401) (s 1601) (s 1602) (c (p 400))) : tt Zi d 110 (0, [some (.inr (.inl 4)), some (.inl v)], [], n, D, s, p, c) (fun R H => ∃ (n' : Nat) (D' : Nat → Nat × Nat) (s' : Nat → Int) (p' : Nat → Nat) (c' : Nat → Nat → Int), R = .inl none ∧ H = (n', D', s', p', c') ∧ bS s' ∧ bC D' c' ∧ wp q g n' D' p' s' ∧ fr s s' [401] ∧ frp p p' [400] ∧ ext n D n' D' ∧ fk p c n' p' c' [400] ∧ (s' 401 = s 401 + 2) ∧ (wrl (wAdd (wAdd W (mi_shr v 8)) v) (s' 401) (s' 1601) (s' 1602) (c' (p' 400)))) := by
  refine tt_k 4 (S' := (5, [some (.inr (.inl 4)), some (.inl v)], [.inl (mi_shr v 8), .inr (.inl 4)], n, D, s, p, c)) rfl ?_
  have e1 := mi_shr_bd v 8
  have b2 : 0 ≤ (s 401) ∧ (s 401) ≤ 262144 := hS 401
  have b3 : 0 ≤ (s 1601) ∧ (s 1601) ≤ 255 := hS 1601
  have b4 : 1 ≤ (s 1602) ∧ (s 1602) ≤ 8 := hS 1602
  refine tt_cl (by omega) rfl (e_add4 (Zi := Zi) (q := q) (n := n) (D := D) (s := s) (p := p) (c := c) (by omega) hz (by omega) hD hS hC hW W (mi_shr v 8) (by omega) (show (s 401) ≤ 262143 by omega) hp1) ?_
  rintro _ _ ⟨n5, D6, s7, p8, c9, rfl, rfl, hS7, hC9, hW10, f11, g12, xe13, kf14, k15, k16⟩
  have FK17 : fk p c n5 p8 c9 [400] := fk_tr (fk_rf hD) kf14 (by decide)
  show tt Zi d 110 (8, [some (.inr (.inl 4)), some (.inl v)], [], n5, D6, s7, p8, c9) _
  replace k15 : (s7 401) = (s 401) + 1 := k15
  have b18 : 0 ≤ (s7 401) ∧ (s7 401) ≤ 262144 := hS7 401
  have b19 : 0 ≤ (s7 1601) ∧ (s7 1601) ≤ 255 := hS7 1601
  have b20 : 1 ≤ (s7 1602) ∧ (s7 1602) ≤ 8 := hS7 1602
  refine tt_k 2 (S' := (10, [some (.inr (.inl 4)), some (.inl v)], [.inl v, .inr (.inl 4)], n5, D6, s7, p8, c9)) rfl ?_
  refine tt_cl (by omega) rfl (e_add4 (Zi := Zi) (q := q) (n := n5) (D := D6) (s := s7) (p := p8) (c := c9) (by omega) hz (by omega) FK17.1 hS7 hC9 hW10 (wAdd W (mi_shr v 8)) v (by omega) (show (s7 401) ≤ 262143 by omega) k16) ?_
  rintro _ _ ⟨n21, D22, s23, p24, c25, rfl, rfl, hS23, hC25, hW26, f27, g28, xe29, kf30, k31, k32⟩
  have FK33 : fk p c n21 p24 c25 [400] := fk_tr FK17 kf30 (by decide)
  show tt Zi d 110 (13, [some (.inr (.inl 4)), some (.inl v)], [], n21, D22, s23, p24, c25) _
  replace k31 : (s23 401) = (s7 401) + 1 := k31
  have b34 : 0 ≤ (s23 401) ∧ (s23 401) ≤ 262144 := hS23 401
  have b35 : 0 ≤ (s23 1601) ∧ (s23 1601) ≤ 255 := hS23 1601
  have b36 : 1 ≤ (s23 1602) ∧ (s23 1602) ≤ 8 := hS23 1602
  exact tt_rtv rfl rfl ⟨n21, D22, s23, p24, c25, rfl, rfl, hS23, hC25, hW26, (fr_tr (fr_tr fr_rf f11 (by decide)) f27 (by decide)), (frp_tr (frp_tr frp_rf g12 (by decide)) g28 (by decide)), (ext_tr (ext_tr ext_rf xe13) xe29), FK33, by show (s23 401) = s 401 + 2; omega, k32⟩
set_option maxRecDepth 100000 in
set_option maxHeartbeats 4000000 in
theorem e_addMark4 {g : Nat → Int} {Zi : Nat → Option (Nat × (Nat → Int))} {d n q : Nat} {D : Nat → Nat × Nat} {s : Nat → Int} {p : Nat → Nat} {c : Nat → Nat → Int} (hd : 2 ≤ d) (hz : zk Zi) (hq : q + 4 ≤ 400000) (hD : wd n p) (hS : bS s) (hC : bC D c) (hW : wp q g n D p s) (W : WT) (v : Int) (b_v : -2147483648 ≤ v ∧ v ≤ 2147483647) (hp0 : s 401 ≤ 262142) (hp1 : wrl W (s 401) (s 1601) (s 1602) (c (p 400))) : tt Zi d 108 (0, [some (.inr (.inl 4)), some (.inl v)], [], n, D, s, p, c) (fun R H => ∃ (n' : Nat) (D' : Nat → Nat × Nat) (s' : Nat → Int) (p' : Nat → Nat) (c' : Nat → Nat → Int), R = .inl none ∧ H = (n', D', s', p', c') ∧ bS s' ∧ bC D' c' ∧ wp q g n' D' p' s' ∧ fr s s' [401] ∧ frp p p' [400] ∧ ext n D n' D' ∧ fk p c n' p' c' [400] ∧ (s' 401 = s 401 + 2) ∧ (wrl (wAdd (wAdd W 255) v) (s' 401) (s' 1601) (s' 1602) (c' (p' 400)))) := by
  refine tt_k 2 (S' := (4, [some (.inr (.inl 4)), some (.inl v)], [.inl 255, .inr (.inl 4)], n, D, s, p, c)) rfl ?_
  have b1 : 0 ≤ (s 401) ∧ (s 401) ≤ 262144 := hS 401
  have b2 : 0 ≤ (s 1601) ∧ (s 1601) ≤ 255 := hS 1601
  have b3 : 1 ≤ (s 1602) ∧ (s 1602) ≤ 8 := hS 1602
  refine tt_cl (by omega) rfl (e_add4 (Zi := Zi) (q := q) (n := n) (D := D) (s := s) (p := p) (c := c) (by omega) hz (by omega) hD hS hC hW W 255 (by omega) (show (s 401) ≤ 262143 by omega) hp1) ?_
  rintro _ _ ⟨n4, D5, s6, p7, c8, rfl, rfl, hS6, hC8, hW9, f10, g11, xe12, kf13, k14, k15⟩
  have FK16 : fk p c n4 p7 c8 [400] := fk_tr (fk_rf hD) kf13 (by decide)
  show tt Zi d 108 (7, [some (.inr (.inl 4)), some (.inl v)], [], n4, D5, s6, p7, c8) _
  replace k14 : (s6 401) = (s 401) + 1 := k14
  have b17 : 0 ≤ (s6 401) ∧ (s6 401) ≤ 262144 := hS6 401
  have b18 : 0 ≤ (s6 1601) ∧ (s6 1601) ≤ 255 := hS6 1601
  have b19 : 1 ≤ (s6 1602) ∧ (s6 1602) ≤ 8 := hS6 1602
  refine tt_k 2 (S' := (9, [some (.inr (.inl 4)), some (.inl v)], [.inl v, .inr (.inl 4)], n4, D5, s6, p7, c8)) rfl ?_
  refine tt_cl (by omega) rfl (e_add4 (Zi := Zi) (q := q) (n := n4) (D := D5) (s := s6) (p := p7) (c := c8) (by omega) hz (by omega) FK16.1 hS6 hC8 hW9 (wAdd W 255) v (by omega) (show (s6 401) ≤ 262143 by omega) k15) ?_
  rintro _ _ ⟨n20, D21, s22, p23, c24, rfl, rfl, hS22, hC24, hW25, f26, g27, xe28, kf29, k30, k31⟩
  have FK32 : fk p c n20 p23 c24 [400] := fk_tr FK16 kf29 (by decide)
  show tt Zi d 108 (12, [some (.inr (.inl 4)), some (.inl v)], [], n20, D21, s22, p23, c24) _
  replace k30 : (s22 401) = (s6 401) + 1 := k30
  have b33 : 0 ≤ (s22 401) ∧ (s22 401) ≤ 262144 := hS22 401
  have b34 : 0 ≤ (s22 1601) ∧ (s22 1601) ≤ 255 := hS22 1601
  have b35 : 1 ≤ (s22 1602) ∧ (s22 1602) ≤ 8 := hS22 1602
  exact tt_rtv rfl rfl ⟨n20, D21, s22, p23, c24, rfl, rfl, hS22, hC24, hW25, (fr_tr (fr_tr fr_rf f10 (by decide)) f26 (by decide)), (frp_tr (frp_tr frp_rf g11 (by decide)) g27 (by decide)), (ext_tr (ext_tr ext_rf xe12) xe28), FK32, by show (s22 401) = s 401 + 2; omega, k31⟩
set_option maxRecDepth 100000 in
set_option maxHeartbeats 4000000 in
theorem e_write_L4 {g : Nat → Int} {Zi : Nat → Option (Nat × (Nat → Int))} {d n q : Nat} {D : Nat → Nat × Nat} {s : Nat → Int} {p : Nat → Nat} {c : Nat → Nat → Int} {o_2 : Option mi_V} {Q : mi_Rs → mi_H → Prop} (hd : 2 ≤ d) (hz : zk Zi) (hq : q + 4 ≤ 400001) (hD : wd n p) (hS : bS s) (hC : bC D c) (hW : wp q g n D p s) (U : Int) (R : WT) (v : Int) (b_v : -2147483648 ≤ v ∧ v ≤ 2147483647) (hq0 : U ≤ 1834990)
  (hK : ∀ (k : Int) (n0 : Nat) (D0 : Nat → Nat × Nat) (s0 : Nat → Int) (p0 : Nat → Nat) (c0 : Nat → Nat → Int) (b_k : -1 ≤ k ∧ k ≤ 63) (hS0 : bS s0) (hF0 : fr s s0 [401, 1601, 1602]) (hC0 : bC D0 c0) (hW0 : wp q g n0 D0 p0 s0) (hP0 : frp p p0 [400]) (hE0 : ext n D n0 D0) (hK0 : fk p c n0 p0 c0 [400]) (hc_wo : wo s0) (i0 : 7 * s0 401 - s0 1602 + (k + 1) ≤ U) (i1 : wLp k v R (s0 401) (s0 1601) (s0 1602) (c0 (p0 400))) (i2 : k ≤ 31 ∨ v = 0), (k < 0) → tt Zi d 47 (84, [some (.inr (.inl 16)), some (.inl v), o_2, some (.inl k)], [], n0, D0, s0, p0, c0) Q) :
  ∀ (m : Nat) (k : Int) (n0 : Nat) (D0 : Nat → Nat × Nat) (s0 : Nat → Int) (p0 : Nat → Nat) (c0 : Nat → Nat → Int) (b_k : -1 ≤ k ∧ k ≤ 63) (hS0 : bS s0) (hF0 : fr s s0 [401, 1601, 1602]) (hC0 : bC D0 c0) (hW0 : wp q g n0 D0 p0 s0) (hP0 : frp p p0 [400]) (hE0 : ext n D n0 D0) (hK0 : fk p c n0 p0 c0 [400]) (hc_wo : wo s0) (i0 : 7 * s0 401 - s0 1602 + (k + 1) ≤ U) (i1 : wLp k v R (s0 401) (s0 1601) (s0 1602) (c0 (p0 400))) (i2 : k ≤ 31 ∨ v = 0), (k + 1).toNat < m → tt Zi d 47 (4, [some (.inr (.inl 16)), some (.inl v), o_2, some (.inl k)], [], n0, D0, s0, p0, c0) Q := by
  intro m
  induction m with
  | zero => intro k n0 D0 s0 p0 c0 b_k hS0 hF0 hC0 hW0 hP0 hE0 hK0 hc_wo i0 i1 i2 hm; exact absurd hm (by omega)
  | succ m ih =>
    intro k n0 D0 s0 p0 c0 b_k hS0 hF0 hC0 hW0 hP0 hE0 hK0 hc_wo i0 i1 i2 hm
    have hw0 := w_lo (size := s0 401) hc_wo
    have hbt := fun hk => bt_sh (v := v) (k := k) (by omega) hk i2
    refine tt_k 1 (S' := (5, [some (.inr (.inl 16)), some (.inl v), o_2, some (.inl k)], [.inl k], n0, D0, s0, p0, c0)) rfl ?_
    refine tz_lt (x := k) rfl rfl (by omega) (fun h1 => ?_) (fun h1 => ?_)
    · show tt Zi d 47 (84, [some (.inr (.inl 16)), some (.inl v), o_2, some (.inl k)], [], n0, D0, s0, p0, c0) _
      exact hK k n0 D0 s0 p0 c0 (by omega) hS0 hF0 hC0 hW0 hP0 hE0 hK0 hc_wo (show 7 * (s0 401) - (s0 1602) + (k + 1) ≤ U by omega) i1 i2 (by omega)
    · show tt Zi d 47 (8, [some (.inr (.inl 16)), some (.inl v), o_2, some (.inl k)], [], n0, D0, s0, p0, c0) _
      refine tt_k 14 (S' := (26, [some (.inr (.inl 16)), some (.inl v), o_2, some (.inl k)], [.inr (.inl 16), .inr (.inl 16)], n0, D0, (us s0 1601 (((2 * (s0 1601)) + (mi_and (mi_shr v k) 1)))), p0, c0)) rfl ?_
      refine tt_k 6 (S' := (38, [some (.inr (.inl 16)), some (.inl v), o_2, some (.inl k)], [.inl ((s0 1602) - 1)], n0, D0, (us (us s0 1601 (((2 * (s0 1601)) + (mi_and (mi_shr v k) 1)))) 1602 ((s0 1602) - 1)), p0, c0)) rfl ?_
      have b2 : 1 ≤ (s0 1602) ∧ (s0 1602) ≤ 8 := hS0 1602
      refine tz_ne (x := ((s0 1602) - 1)) rfl rfl (by omega) (fun h3 => ?_) (fun h3 => ?_)
      · show tt Zi d 47 (78, [some (.inr (.inl 16)), some (.inl v), o_2, some (.inl k)], [], n0, D0, (us (us s0 1601 (((2 * (s0 1601)) + (mi_and (mi_shr v k) 1)))) 1602 ((s0 1602) - 1)), p0, c0) _
        refine tt_k 2 (S' := (4, [some (.inr (.inl 16)), some (.inl v), o_2, some (.inl (k + (-1)))], [], n0, D0, (us (us s0 1601 (((2 * (s0 1601)) + (mi_and (mi_shr v k) 1)))) 1602 ((s0 1602) - 1)), p0, c0)) rfl ?_
        have b4 : 0 ≤ (s0 1601) ∧ (s0 1601) ≤ 255 := hS0 1601
        have e5 := mi_shr_bd v k
        have e6 := mi_and1 (mi_shr v k)
        exact ih (k + (-1)) n0 D0 (us (us s0 1601 (((2 * (s0 1601)) + (mi_and (mi_shr v k) 1)))) 1602 ((s0 1602) - 1)) p0 c0 (by omega) (bS_us (bS_us hS0 (show 0 ≤ ((2 * (s0 1601)) + (mi_and (mi_shr v k) 1)) ∧ ((2 * (s0 1601)) + (mi_and (mi_shr v k) 1)) ≤ 255 by omega)) (show 1 ≤ ((s0 1602) - 1) ∧ ((s0 1602) - 1) ≤ 8 by omega)) (fr_us (by decide) (fr_us (by decide) hF0)) hC0 (wp_w12 hW0 (by first | exact Or.inl (by omega) | exact Or.inr (w_bit1 (size := 0) hc_wo (by omega) (by omega)).1)) hP0 hE0 hK0 (show w_ok ((2 * (s0 1601)) + (mi_and (mi_shr v k) 1)) ((s0 1602) - 1) from (w_bit1 (size := 0) hc_wo (by omega) (by omega)).1) (show 7 * (s0 401) - ((s0 1602) - 1) + ((k + (-1)) + 1) ≤ U by omega) (wLp_1x i1 (by omega) (hbt (by omega)) (by omega)) (show (k + (-1)) ≤ 31 ∨ v = 0 by omega) (show ((k + (-1)) + 1).toNat < m by omega)
      · show tt Zi d 47 (41, [some (.inr (.inl 16)), some (.inl v), o_2, some (.inl k)], [], n0, D0, (us (us s0 1601 (((2 * (s0 1601)) + (mi_and (mi_shr v k) 1)))) 1602 ((s0 1602) - 1)), p0, c0) _
        refine tt_k 4 (S' := (49, [some (.inr (.inl 16)), some (.inl v), o_2, some (.inl k)], [.inl (((2 * (s0 1601)) + (mi_and (mi_shr v k) 1))), .inr (.inl 4)], n0, D0, (us (us s0 1601 (((2 * (s0 1601)) + (mi_and (mi_shr v k) 1)))) 1602 ((s0 1602) - 1)), p0, c0)) rfl ?_
        have b7 : 0 ≤ (s0 1601) ∧ (s0 1601) ≤ 255 := hS0 1601
        have e8 := mi_shr_bd v k
        have e9 := mi_and1 (mi_shr v k)
        have b10 : 0 ≤ (s0 401) ∧ (s0 401) ≤ 262144 := hS0 401
        refine tt_cl (by omega) rfl (e_add4x (Zi := Zi) (q := q) (n := n0) (D := D0) (s := (us (us s0 1601 (((2 * (s0 1601)) + (mi_and (mi_shr v k) 1)))) 1602 ((s0 1602) - 1))) (p := p0) (c := c0) (by omega) hz (by omega) hK0.1 (by rw [us_us]; exact bS_us (bS_us hS0 (show 0 ≤ ((2 * (s0 1601)) + (mi_and (mi_shr v k) 1)) ∧ ((2 * (s0 1601)) + (mi_and (mi_shr v k) 1)) ≤ 255 by omega)) (by decide)) hC0 (wp_w12 hW0 (by first | exact Or.inl (by omega) | exact Or.inr (w_bit1 (size := 0) hc_wo (by omega) (by omega)).1)) (((2 * (s0 1601)) + (mi_and (mi_shr v k) 1))) (by omega) (show (s0 401) ≤ 262143 by omega)) ?_
        rintro _ _ ⟨n11, D12, s13, p14, c15, rfl, rfl, hS13, hC15, hW16, f17, g18, xe19, kf20, k21, k22, k23⟩
        have FK24 : fk p c n11 p14 c15 [400] := fk_tr hK0 kf20 (by decide)
        show tt Zi d 47 (52, [some (.inr (.inl 16)), some (.inl v), o_2, some (.inl k)], [], n11, D12, s13, p14, c15) _
        replace k21 : (s13 401) = (s0 401) + 1 := k21
        have b25 : 0 ≤ (s13 401) ∧ (s13 401) ≤ 262144 := hS13 401
        have e26 : s13 1601 = ((2 * (s0 1601)) + (mi_and (mi_shr v k) 1)) := (f17 1601 (by decide))
        have b27 : 0 ≤ (s13 1601) ∧ (s13 1601) ≤ 255 := hS13 1601
        have e28 : s13 1602 = ((s0 1602) - 1) := (f17 1602 (by decide))
        refine tt_k 4 (S' := (60, [some (.inr (.inl 16)), some (.inl v), o_2, some (.inl k)], [.inl 255, .inl (s13 1601), .inr (.inl 16)], n11, D12, s13, p14, c15)) rfl ?_
        have K30 : ∀ (j29 : Int) , (7 ≤ j29 ∧ j29 ≤ 8) → (j29 = (if 2 * s0 1601 + mi_and (mi_shr v k) 1 = 255 then 7 else 8)) → (True) → tt Zi d 47 (70, [some (.inr (.inl 16)), some (.inl v), o_2, some (.inl k)], [.inl j29, .inr (.inl 16)], n11, D12, s13, p14, c15) Q := by
          intro j29 b32 b33 hj31
          refine tt_k 6 (S' := (4, [some (.inr (.inl 16)), some (.inl v), o_2, some (.inl (k + (-1)))], [], n11, D12, (us (us s13 1602 j29) 1601 0), p14, c15)) rfl ?_
          exact ih (k + (-1)) n11 D12 (us (us s13 1602 j29) 1601 0) p14 c15 (by omega) (bS_us (bS_uu hS13 (show 1 ≤ j29 ∧ j29 ≤ 8 by omega)) (show 0 ≤ 0 ∧ 0 ≤ 255 by omega)) (fr_us (by decide) (fr_us (by decide) (fr_tr (fr_us (by decide) (fr_us (by decide) hF0)) f17 (by decide)))) hC15 (wp_w21 hW16 (Or.inr (w_ok0 (by omega)))) (frp_tr hP0 g18 (by decide)) (ext_tr hE0 xe19) FK24 (show w_ok 0 j29 from w_ok0 (by omega)) (show 7 * (s13 401) - j29 + ((k + (-1)) + 1) ≤ U by omega) (by have h := wLp_3 (g := c15 (p14 400)) i1 (by omega) (hbt (by omega)) (by omega) (by omega) k22 k23; rw [← k21, ← b33] at h; exact h) (show (k + (-1)) ≤ 31 ∨ v = 0 by omega) (show ((k + (-1)) + 1).toNat < m by omega)
        refine tb_ne (x := (s13 1601)) (y := 255) rfl rfl (by omega) (fun h34 => ?_) (fun h34 => ?_)
        · show tt Zi d 47 (68, [some (.inr (.inl 16)), some (.inl v), o_2, some (.inl k)], [.inr (.inl 16)], n11, D12, s13, p14, c15) _
          refine tt_k 1 (S' := (70, [some (.inr (.inl 16)), some (.inl v), o_2, some (.inl k)], [.inl 8, .inr (.inl 16)], n11, D12, s13, p14, c15)) rfl ?_
          exact K30 8  (by omega) (by first | rw [if_pos (by omega)] | rw [if_neg (by omega)]) (trivial)
        · show tt Zi d 47 (63, [some (.inr (.inl 16)), some (.inl v), o_2, some (.inl k)], [.inr (.inl 16)], n11, D12, s13, p14, c15) _
          refine tt_k 2 (S' := (70, [some (.inr (.inl 16)), some (.inl v), o_2, some (.inl k)], [.inl 7, .inr (.inl 16)], n11, D12, s13, p14, c15)) rfl ?_
          exact K30 7  (by omega) (by first | rw [if_pos (by omega)] | rw [if_neg (by omega)]) (trivial)
set_option maxRecDepth 100000 in
set_option maxHeartbeats 4000000 in
theorem e_write {g : Nat → Int} {Zi : Nat → Option (Nat × (Nat → Int))} {d n q : Nat} {D : Nat → Nat × Nat} {s : Nat → Int} {p : Nat → Nat} {c : Nat → Nat → Int} (hd : 2 ≤ d) (hz : zk Zi) (hq : q + 4 ≤ 400000) (hD : wd n p) (hS : bS s) (hC : bC D c) (hW : wp q g n D p s) (W : WT) (v : Int) (n_ : Int) (b_v : -2147483648 ≤ v ∧ v ≤ 2147483647) (b_n_ : 0 ≤ n_ ∧ n_ ≤ 64) (hp0 : wo s) (hp1 : 7 * s 401 - s 1602 + 64 ≤ 1834990) (hp2 : n_ ≤ 32 ∨ v = 0) (hp3 : wrl W (s 401) (s 1601) (s 1602) (c (p 400))) : tt Zi d 47 (0, [some (.inr (.inl 16)), some (.inl v), some (.inl n_), none], [], n, D, s, p, c) (fun R H => ∃ (n' : Nat) (D' : Nat → Nat × Nat) (s' : Nat → Int) (p' : Nat → Nat) (c' : Nat → Nat → Int), R = .inl none ∧ H = (n', D', s', p', c') ∧ bS s' ∧ bC D' c' ∧ wp q g n' D' p' s' ∧ fr s s' [401, 1601, 1602] ∧ frp p p' [400] ∧ ext n D n' D' ∧ fk p c n' p' c' [400] ∧ (wo s') ∧ (7 * s' 401 - s' 1602 ≤ 7 * s 401 - s 1602 + n_) ∧ (wrl (wBits (n_ : Int).toNat v W) (s' 401) (s' 1601) (s' 1602) (c' (p' 400)))) := by
  have hw0 := w_lo (size := s 401) hp0
  refine tt_k 4 (S' := (4, [some (.inr (.inl 16)), some (.inl v), some (.inl n_), some (.inl (n_ - 1))], [], n, D, s, p, c)) rfl ?_
  refine e_write_L4 (Zi := Zi) (q := q) (n := n) (D := D) (s := s) (p := p) (c := c) hd hz (by omega) hD hS hC hW (7 * s 401 - s 1602 + n_) (wBits n_.toNat v W) v (by omega) (show (7 * s 401 - s 1602 + n_) ≤ 1834990 by omega)  ?_ _ (n_ - 1) n D s p c (by omega) hS fr_rf hC hW frp_rf ext_rf (fk_rf hD) hp0 (show 7 * ((s 401)) - ((s 1602)) + ((n_ - 1) + 1) ≤ (7 * s 401 - s 1602 + n_) by omega) (wLp_0 hp3) (show (n_ - 1) ≤ 31 ∨ v = 0 by omega) (Nat.lt_succ_self _)
  intro x1 n2 D3 s4 p5 c6 b7 hS4 f8 hC6 hW9 g10 xe11 kf12 hc13 i14 i15 i16 hx17
  show tt Zi d 47 (84, [some (.inr (.inl 16)), some (.inl v), some (.inl n_), some (.inl x1)], [], n2, D3, s4, p5, c6) _
  have FK18 : fk p c n2 p5 c6 [400] := fk_tr (fk_rf hD) kf12 (by decide)
  replace i14 : 7 * (s4 401) - (s4 1602) + (x1 + 1) ≤ (7 * s 401 - s 1602 + n_) := i14
  have b19 : 0 ≤ (s4 401) ∧ (s4 401) ≤ 262144 := hS4 401
  have b20 : 1 ≤ (s4 1602) ∧ (s4 1602) ≤ 8 := hS4 1602
  replace i16 : x1 ≤ 31 ∨ v = 0 := i16
  replace hx17 : x1 < 0 := hx17
  exact tt_rtv rfl rfl ⟨n2, D3, s4, p5, c6, rfl, rfl, hS4, hC6, hW9, (fr_tr fr_rf f8 (by decide)), (frp_tr frp_rf g10 (by decide)), (ext_tr ext_rf xe11), FK18, hc13, by show 7 * (s4 401) - (s4 1602) ≤ 7 * s 401 - s 1602 + n_; omega, (wLp_e i15 hx17)⟩
set_option maxRecDepth 100000 in
set_option maxHeartbeats 4000000 in
theorem e_writeNumber {g : Nat → Int} {Zi : Nat → Option (Nat × (Nat → Int))} {d n q : Nat} {D : Nat → Nat × Nat} {s : Nat → Int} {p : Nat → Nat} {c : Nat → Nat → Int} (hd : 3 ≤ d) (hz : zk Zi) (hq : q + 6 ≤ 400000) (hD : wd n p) (hS : bS s) (hC : bC D c) (hW : wp q g n D p s) (W : WT) (nu : Int) (k_ : Int) (mz : Int) (wb : Int) (b_nu : 0 ≤ nu ∧ nu ≤ 65536) (b_k_ : 0 ≤ k_ ∧ k_ ≤ 30) (b_mz : 0 ≤ mz ∧ mz ≤ 63) (b_wb : 0 ≤ wb ∧ wb ≤ 30) (hp0 : wo s) (hp1 : 7 * s 401 - s 1602 + 200 ≤ 1834990) (hp2 : wrl W (s 401) (s 1601) (s 1602) (c (p 400))) : tt Zi d 46 (0, [some (.inr (.inl 16)), some (.inl nu), some (.inl k_), some (.inl mz), some (.inl wb), none], [], n, D, s, p, c) (fun R H => ∃ (n' : Nat) (D' : Nat → Nat × Nat) (s' : Nat → Int) (p' : Nat → Nat) (c' : Nat → Nat → Int), R = .inl none ∧ H = (n', D', s', p', c') ∧ bS s' ∧ bC D' c' ∧ wp q g n' D' p' s' ∧ fr s s' [401, 1601, 1602] ∧ frp p p' [400] ∧ ext n D n' D' ∧ fk p c n' p' c' [400] ∧ (wo s') ∧ (7 * s' 401 - s' 1602 ≤ 7 * s 401 - s 1602 + 94) ∧ (wrl (wNum W nu k_ mz wb) (s' 401) (s' 1601) (s' 1602) (c' (p' 400)))) := by
  have hsh := mi_shr_nn (x := nu) (k := k_) (by omega) (by omega)
  refine tt_k 6 (S' := (8, [some (.inr (.inl 16)), some (.inl nu), some (.inl k_), some (.inl mz), some (.inl wb), some (.inl (mi_shr nu k_))], [.inl mz, .inl (mi_shr nu k_)], n, D, s, p, c)) rfl ?_
  have e1 := mi_shr_nn (x := nu) (k := k_) (by omega) (by omega)
  refine tb_ge (x := (mi_shr nu k_)) (y := mz) rfl rfl (by omega) (fun h2 => ?_) (fun h2 => ?_)
  · show tt Zi d 46 (33, [some (.inr (.inl 16)), some (.inl nu), some (.inl k_), some (.inl mz), some (.inl wb), some (.inl (mi_shr nu k_))], [], n, D, s, p, c) _
    refine tt_k 3 (S' := (36, [some (.inr (.inl 16)), some (.inl nu), some (.inl k_), some (.inl mz), some (.inl wb), some (.inl (mi_shr nu k_))], [.inl mz, .inl 0, .inr (.inl 16)], n, D, s, p, c)) rfl ?_
    have b3 : 0 ≤ (s 401) ∧ (s 401) ≤ 262144 := hS 401
    have b4 : 1 ≤ (s 1602) ∧ (s 1602) ≤ 8 := hS 1602
    have b5 : 0 ≤ (s 1601) ∧ (s 1601) ≤ 255 := hS 1601
    refine tt_cl (by omega) rfl (e_write (Zi := Zi) (q := q) (n := n) (D := D) (s := s) (p := p) (c := c) (by omega) hz (by omega) hD hS hC hW W 0 mz (by omega) (by omega) hp0 (show 7 * (s 401) - (s 1602) + 64 ≤ 1834990 by omega) (show mz ≤ 32 ∨ 0 = 0 by omega) hp2) ?_
    rintro _ _ ⟨n6, D7, s8, p9, c10, rfl, rfl, hS8, hC10, hW11, f12, g13, xe14, kf15, k16, k17, k18⟩
    have FK19 : fk p c n6 p9 c10 [400] := fk_tr (fk_rf hD) kf15 (by decide)
    show tt Zi d 46 (39, [some (.inr (.inl 16)), some (.inl nu), some (.inl k_), some (.inl mz), some (.inl wb), some (.inl (mi_shr nu k_))], [], n6, D7, s8, p9, c10) _
    replace k17 : 7 * (s8 401) - (s8 1602) ≤ 7 * (s 401) - (s 1602) + mz := k17
    have b20 : 0 ≤ (s8 401) ∧ (s8 401) ≤ 262144 := hS8 401
    have b21 : 1 ≤ (s8 1602) ∧ (s8 1602) ≤ 8 := hS8 1602
    have b22 : 0 ≤ (s8 1601) ∧ (s8 1601) ≤ 255 := hS8 1601
    refine tt_k 3 (S' := (42, [some (.inr (.inl 16)), some (.inl nu), some (.inl k_), some (.inl mz), some (.inl wb), some (.inl (mi_shr nu k_))], [.inl 1, .inl 1, .inr (.inl 16)], n6, D7, s8, p9, c10)) rfl ?_
    refine tt_cl (by omega) rfl (e_write (Zi := Zi) (q := q) (n := n6) (D := D7) (s := s8) (p := p9) (c := c10) (by omega) hz (by omega) FK19.1 hS8 hC10 hW11 (wBits (mz : Int).toNat 0 W) 1 1 (by omega) (by omega) k16 (show 7 * (s8 401) - (s8 1602) + 64 ≤ 1834990 by omega) (show 1 ≤ 32 ∨ 1 = 0 by omega) k18) ?_
    rintro _ _ ⟨n23, D24, s25, p26, c27, rfl, rfl, hS25, hC27, hW28, f29, g30, xe31, kf32, k33, k34, k35⟩
    have FK36 : fk p c n23 p26 c27 [400] := fk_tr FK19 kf32 (by decide)
    show tt Zi d 46 (45, [some (.inr (.inl 16)), some (.inl nu), some (.inl k_), some (.inl mz), some (.inl wb), some (.inl (mi_shr nu k_))], [], n23, D24, s25, p26, c27) _
    replace k34 : 7 * (s25 401) - (s25 1602) ≤ 7 * (s8 401) - (s8 1602) + 1 := k34
    have b37 : 0 ≤ (s25 401) ∧ (s25 401) ≤ 262144 := hS25 401
    have b38 : 1 ≤ (s25 1602) ∧ (s25 1602) ≤ 8 := hS25 1602
    have b39 : 0 ≤ (s25 1601) ∧ (s25 1601) ≤ 255 := hS25 1601
    refine tt_k 5 (S' := (51, [some (.inr (.inl 16)), some (.inl nu), some (.inl k_), some (.inl mz), some (.inl wb), some (.inl (mi_shr nu k_))], [.inl wb, .inl (nu - 1), .inr (.inl 16)], n23, D24, s25, p26, c27)) rfl ?_
    refine tt_cl (by omega) rfl (e_write (Zi := Zi) (q := q) (n := n23) (D := D24) (s := s25) (p := p26) (c := c27) (by omega) hz (by omega) FK36.1 hS25 hC27 hW28 (wBits (1 : Int).toNat 1 (wBits (mz : Int).toNat 0 W)) (nu - 1) wb (by omega) (by omega) k33 (show 7 * (s25 401) - (s25 1602) + 64 ≤ 1834990 by omega) (show wb ≤ 32 ∨ (nu - 1) = 0 by omega) k35) ?_
    rintro _ _ ⟨n40, D41, s42, p43, c44, rfl, rfl, hS42, hC44, hW45, f46, g47, xe48, kf49, k50, k51, k52⟩
    have FK53 : fk p c n40 p43 c44 [400] := fk_tr FK36 kf49 (by decide)
    show tt Zi d 46 (54, [some (.inr (.inl 16)), some (.inl nu), some (.inl k_), some (.inl mz), some (.inl wb), some (.inl (mi_shr nu k_))], [], n40, D41, s42, p43, c44) _
    replace k51 : 7 * (s42 401) - (s42 1602) ≤ 7 * (s25 401) - (s25 1602) + wb := k51
    have b54 : 0 ≤ (s42 401) ∧ (s42 401) ≤ 262144 := hS42 401
    have b55 : 1 ≤ (s42 1602) ∧ (s42 1602) ≤ 8 := hS42 1602
    have b56 : 0 ≤ (s42 1601) ∧ (s42 1601) ≤ 255 := hS42 1601
    exact tt_rtv rfl rfl ⟨n40, D41, s42, p43, c44, rfl, rfl, hS42, hC44, hW45, (fr_tr (fr_tr (fr_tr fr_rf f12 (by decide)) f29 (by decide)) f46 (by decide)), (frp_tr (frp_tr (frp_tr frp_rf g13 (by decide)) g30 (by decide)) g47 (by decide)), (ext_tr (ext_tr (ext_tr ext_rf xe14) xe31) xe48), FK53, k50, by show 7 * (s42 401) - (s42 1602) ≤ 7 * s 401 - s 1602 + 94; omega, by show wrl (wNum W nu k_ mz wb) ((s42 401)) ((s42 1601)) ((s42 1602)) (c44 (p43 400)); have h := k52; rw [wB11] at h; first | (rw [wN1c (by omega) (by omega) (by omega)]; exact h) | (rw [wN2 (by omega) (by omega) (by omega)]; exact h)⟩
  · show tt Zi d 46 (11, [some (.inr (.inl 16)), some (.inl nu), some (.inl k_), some (.inl mz), some (.inl wb), some (.inl (mi_shr nu k_))], [], n, D, s, p, c) _
    refine tt_k 3 (S' := (15, [some (.inr (.inl 16)), some (.inl nu), some (.inl k_), some (.inl mz), some (.inl wb), some (.inl (mi_shr nu k_))], [.inl (mi_shr nu k_), .inl 0, .inr (.inl 16)], n, D, s, p, c)) rfl ?_
    have b57 : 0 ≤ (s 401) ∧ (s 401) ≤ 262144 := hS 401
    have b58 : 1 ≤ (s 1602) ∧ (s 1602) ≤ 8 := hS 1602
    have b59 : 0 ≤ (s 1601) ∧ (s 1601) ≤ 255 := hS 1601
    refine tt_cl (by omega) rfl (e_write (Zi := Zi) (q := q) (n := n) (D := D) (s := s) (p := p) (c := c) (by omega) hz (by omega) hD hS hC hW W 0 (mi_shr nu k_) (by omega) (by omega) hp0 (show 7 * (s 401) - (s 1602) + 64 ≤ 1834990 by omega) (show (mi_shr nu k_) ≤ 32 ∨ 0 = 0 by omega) hp2) ?_
    rintro _ _ ⟨n60, D61, s62, p63, c64, rfl, rfl, hS62, hC64, hW65, f66, g67, xe68, kf69, k70, k71, k72⟩
    have FK73 : fk p c n60 p63 c64 [400] := fk_tr (fk_rf hD) kf69 (by decide)
    show tt Zi d 46 (18, [some (.inr (.inl 16)), some (.inl nu), some (.inl k_), some (.inl mz), some (.inl wb), some (.inl (mi_shr nu k_))], [], n60, D61, s62, p63, c64) _
    replace k71 : 7 * (s62 401) - (s62 1602) ≤ 7 * (s 401) - (s 1602) + (mi_shr nu k_) := k71
    have b74 : 0 ≤ (s62 401) ∧ (s62 401) ≤ 262144 := hS62 401
    have b75 : 1 ≤ (s62 1602) ∧ (s62 1602) ≤ 8 := hS62 1602
    have b76 : 0 ≤ (s62 1601) ∧ (s62 1601) ≤ 255 := hS62 1601
    refine tt_k 3 (S' := (21, [some (.inr (.inl 16)), some (.inl nu), some (.inl k_), some (.inl mz), some (.inl wb), some (.inl (mi_shr nu k_))], [.inl 1, .inl 1, .inr (.inl 16)], n60, D61, s62, p63, c64)) rfl ?_
    refine tt_cl (by omega) rfl (e_write (Zi := Zi) (q := q) (n := n60) (D := D61) (s := s62) (p := p63) (c := c64) (by omega) hz (by omega) FK73.1 hS62 hC64 hW65 (wBits ((mi_shr nu k_) : Int).toNat 0 W) 1 1 (by omega) (by omega) k70 (show 7 * (s62 401) - (s62 1602) + 64 ≤ 1834990 by omega) (show 1 ≤ 32 ∨ 1 = 0 by omega) k72) ?_
    rintro _ _ ⟨n77, D78, s79, p80, c81, rfl, rfl, hS79, hC81, hW82, f83, g84, xe85, kf86, k87, k88, k89⟩
    have FK90 : fk p c n77 p80 c81 [400] := fk_tr FK73 kf86 (by decide)
    show tt Zi d 46 (24, [some (.inr (.inl 16)), some (.inl nu), some (.inl k_), some (.inl mz), some (.inl wb), some (.inl (mi_shr nu k_))], [], n77, D78, s79, p80, c81) _
    replace k88 : 7 * (s79 401) - (s79 1602) ≤ 7 * (s62 401) - (s62 1602) + 1 := k88
    have b91 : 0 ≤ (s79 401) ∧ (s79 401) ≤ 262144 := hS79 401
    have b92 : 1 ≤ (s79 1602) ∧ (s79 1602) ≤ 8 := hS79 1602
    have b93 : 0 ≤ (s79 1601) ∧ (s79 1601) ≤ 255 := hS79 1601
    refine tt_k 3 (S' := (27, [some (.inr (.inl 16)), some (.inl nu), some (.inl k_), some (.inl mz), some (.inl wb), some (.inl (mi_shr nu k_))], [.inl k_, .inl nu, .inr (.inl 16)], n77, D78, s79, p80, c81)) rfl ?_
    refine tt_cl (by omega) rfl (e_write (Zi := Zi) (q := q) (n := n77) (D := D78) (s := s79) (p := p80) (c := c81) (by omega) hz (by omega) FK90.1 hS79 hC81 hW82 (wBits (1 : Int).toNat 1 (wBits ((mi_shr nu k_) : Int).toNat 0 W)) nu k_ (by omega) (by omega) k87 (show 7 * (s79 401) - (s79 1602) + 64 ≤ 1834990 by omega) (show k_ ≤ 32 ∨ nu = 0 by omega) k89) ?_
    rintro _ _ ⟨n94, D95, s96, p97, c98, rfl, rfl, hS96, hC98, hW99, f100, g101, xe102, kf103, k104, k105, k106⟩
    have FK107 : fk p c n94 p97 c98 [400] := fk_tr FK90 kf103 (by decide)
    show tt Zi d 46 (30, [some (.inr (.inl 16)), some (.inl nu), some (.inl k_), some (.inl mz), some (.inl wb), some (.inl (mi_shr nu k_))], [], n94, D95, s96, p97, c98) _
    replace k105 : 7 * (s96 401) - (s96 1602) ≤ 7 * (s79 401) - (s79 1602) + k_ := k105
    have b108 : 0 ≤ (s96 401) ∧ (s96 401) ≤ 262144 := hS96 401
    have b109 : 1 ≤ (s96 1602) ∧ (s96 1602) ≤ 8 := hS96 1602
    have b110 : 0 ≤ (s96 1601) ∧ (s96 1601) ≤ 255 := hS96 1601
    refine tt_k 1 (S' := (54, [some (.inr (.inl 16)), some (.inl nu), some (.inl k_), some (.inl mz), some (.inl wb), some (.inl (mi_shr nu k_))], [], n94, D95, s96, p97, c98)) rfl ?_
    exact tt_rtv rfl rfl ⟨n94, D95, s96, p97, c98, rfl, rfl, hS96, hC98, hW99, (fr_tr (fr_tr (fr_tr fr_rf f66 (by decide)) f83 (by decide)) f100 (by decide)), (frp_tr (frp_tr (frp_tr frp_rf g67 (by decide)) g84 (by decide)) g101 (by decide)), (ext_tr (ext_tr (ext_tr ext_rf xe68) xe85) xe102), FK107, k104, by show 7 * (s96 401) - (s96 1602) ≤ 7 * s 401 - s 1602 + 94; omega, by show wrl (wNum W nu k_ mz wb) ((s96 401)) ((s96 1601)) ((s96 1602)) (c98 (p97 400)); have h := k106; rw [wB11] at h; first | (rw [wN1c (by omega) (by omega) (by omega)]; exact h) | (rw [wN2 (by omega) (by omega) (by omega)]; exact h)⟩
set_option maxRecDepth 100000 in
set_option maxHeartbeats 4000000 in
theorem e_finish {g : Nat → Int} {Zi : Nat → Option (Nat × (Nat → Int))} {d n q : Nat} {D : Nat → Nat × Nat} {s : Nat → Int} {p : Nat → Nat} {c : Nat → Nat → Int} (hd : 2 ≤ d) (hz : zk Zi) (hq : q + 4 ≤ 400000) (hD : wd n p) (hS : bS s) (hC : bC D c) (hW : wp q g n D p s) (W : WT) (hp0 : s 401 ≤ 262143) (hp1 : wo s) (hp2 : wrl W (s 401) (s 1601) (s 1602) (c (p 400))) : tt Zi d 114 (0, [some (.inr (.inl 16))], [], n, D, s, p, c) (fun R H => ∃ (n' : Nat) (D' : Nat → Nat × Nat) (s' : Nat → Int) (p' : Nat → Nat) (c' : Nat → Nat → Int), R = .inl none ∧ H = (n', D', s', p', c') ∧ bS s' ∧ bC D' c' ∧ wp q g n' D' p' s' ∧ fr s s' [401, 1601, 1602] ∧ frp p p' [400] ∧ ext n D n' D' ∧ fk p c n' p' c' [400] ∧ (wo s') ∧ (s' 401 ≤ s 401 + 1) ∧ (s' 1602 = 8) ∧ (wrl (wFin W) (s' 401) (s' 1601) (s' 1602) (c' (p' 400)))) := by
  have b1 : 0 ≤ (s 401) ∧ (s 401) ≤ 262144 := hS 401
  have b2 : 0 ≤ (s 1601) ∧ (s 1601) ≤ 255 := hS 1601
  have b3 : 1 ≤ (s 1602) ∧ (s 1602) ≤ 8 := hS 1602
  refine tt_k 3 (S' := (6, [some (.inr (.inl 16))], [.inl 8, .inl (s 1602)], n, D, s, p, c)) rfl ?_
  refine tb_ge (x := (s 1602)) (y := 8) rfl rfl (by omega) (fun h4 => ?_) (fun h4 => ?_)
  · show tt Zi d 114 (25, [some (.inr (.inl 16))], [], n, D, s, p, c) _
    refine tt_k 6 (S' := (36, [some (.inr (.inl 16))], [], n, D, (us (us s 1602 8) 1601 0), p, c)) rfl ?_
    exact tt_rtv rfl rfl ⟨n, D, (us (us s 1602 8) 1601 0), p, c, rfl, rfl, (bS_us (bS_us hS (show 1 ≤ 8 ∧ 8 ≤ 8 by omega)) (show 0 ≤ 0 ∧ 0 ≤ 255 by omega)), hC, (wp_w21 hW (Or.inr (w_ok0 (by omega)))), (fr_us (by decide) (fr_us (by decide) fr_rf)), frp_rf, ext_rf, (fk_rf hD), (show w_ok 0 8 from w_ok0 (Or.inr rfl)), by show (s 401) ≤ s 401 + 1; omega, rfl, by show wrl (wFin W) ((s 401)) (0) (8) (c (p 400)); exact wFn_2 hp2 (by omega)⟩
  · show tt Zi d 114 (9, [some (.inr (.inl 16))], [], n, D, s, p, c) _
    refine tt_k 7 (S' := (22, [some (.inr (.inl 16))], [.inl (mi_shl (s 1601) (s 1602)), .inr (.inl 4)], n, D, s, p, c)) rfl ?_
    have e5 := mi_shl_bd (s 1601) (s 1602)
    refine tt_cl (by omega) rfl (e_add4f (Zi := Zi) (q := q) (n := n) (D := D) (s := s) (p := p) (c := c) (by omega) hz (by omega) hD hS hC hW (mi_shl (s 1601) (s 1602)) (by omega) (show (s 401) ≤ 262143 by omega)) ?_
    rintro _ _ ⟨n6, D7, s8, p9, c10, rfl, rfl, hS8, hC10, hW11, f12, g13, xe14, kf15, k16, k17, k18⟩
    have hc19 : wo s8 := wo_fr f12 (by decide) hp1
    have FK20 : fk p c n6 p9 c10 [400] := fk_tr (fk_rf hD) kf15 (by decide)
    show tt Zi d 114 (25, [some (.inr (.inl 16))], [], n6, D7, s8, p9, c10) _
    replace k16 : (s8 401) = (s 401) + 1 := k16
    have b21 : 0 ≤ (s8 401) ∧ (s8 401) ≤ 262144 := hS8 401
    refine tt_k 6 (S' := (36, [some (.inr (.inl 16))], [], n6, D7, (us (us s8 1602 8) 1601 0), p9, c10)) rfl ?_
    exact tt_rtv rfl rfl ⟨n6, D7, (us (us s8 1602 8) 1601 0), p9, c10, rfl, rfl, (bS_us (bS_us hS8 (show 1 ≤ 8 ∧ 8 ≤ 8 by omega)) (show 0 ≤ 0 ∧ 0 ≤ 255 by omega)), hC10, (wp_w21 hW11 (Or.inr (w_ok0 (by omega)))), (fr_us (by decide) (fr_us (by decide) (fr_tr fr_rf f12 (by decide)))), (frp_tr frp_rf g13 (by decide)), (ext_tr ext_rf xe14), FK20, (show w_ok 0 8 from w_ok0 (Or.inr rfl)), by show (s8 401) ≤ s 401 + 1; omega, rfl, by show wrl (wFin W) ((s8 401)) (0) (8) (c10 (p9 400)); rw [k16]; exact wFn_1 hp2 (by omega) (by omega) (by omega) k17 k18⟩
