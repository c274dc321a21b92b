/-! the reference's writer and numbers, exactly -/
def zq (Z : Nat → Int) (a0 a1 a2 a3 a4 a5 a6 a7 a8 a9 : Int) : Prop := a0 = Z 3017 ∧ a1 = Z 3018 ∧ a2 = Z 3019 ∧ a3 = Z 3020 ∧ a4 = Z 3021 ∧ a5 = Z 3022 ∧ a6 = Z 3023 ∧ a7 = Z 3024 ∧ a8 = Z 3025 ∧ a9 = Z 3026
theorem wLp_s {k v b : Int} {W R : WT} (h : wBits (k + 1).toNat v W = R) (hk : 0 ≤ k) (hb : b = v / 2 ^ k.toNat % 2) : wBits (k + -1 + 1).toNat v (wBit W b) = R := by
  rw [show (k + 1).toNat = k.toNat + 1 by omega, wBits, ← hb] at h
  rw [show (k + -1 + 1).toNat = k.toNat by omega]
  exact h
theorem wN1 {W : WT} {m k z q : Int} (hm : 0 ≤ m ∧ m ≤ 2147483647) (hk : 0 ≤ k ∧ k ≤ 30) (h : mi_shr m k < z) : wNum W m k z q = wBits k.toNat (mi_and m (mi_shl 1 k - 1)) (wBit (wBits (mi_shr m k).toNat 0 W) 1) := by
  have e := mi_shr_div (x := m) (k := k) (by omega) hk.1 (by omega)
  rw [e] at h ⊢
  unfold wNum
  rw [if_pos h, mi_shl1i hk.1 hk.2, wBits_am (by omega)]
theorem wN2 {W : WT} {m k z q : Int} (hm : 0 ≤ m ∧ m ≤ 2147483647) (hk : 0 ≤ k ∧ k ≤ 30) (h : ¬ mi_shr m k < z) : wNum W m k z q = wBits q.toNat (m - 1) (wBit (wBits z.toNat 0 W) 1) := by
  have e := mi_shr_div (x := m) (k := k) (by omega) hk.1 (by omega)
  rw [e] at h
  unfold wNum
  rw [if_neg h]
set_option maxRecDepth 100000 in
set_option maxHeartbeats 4000000 in
theorem x_add {Zi : Nat → Option (Nat × (Nat → Int))} {d n : Nat} {D : Nat → Nat × Nat} {s : Nat → Int} {p : Nat → Nat} {c : Nat → Nat → Int} (hd : 0 ≤ d) (hS : bS s) (hC : bC D c) (v : Int) (b_v : -2147483648 ≤ v ∧ v ≤ 2147483647) (hp0 : s 3016 ≤ 65535) : tt Zi d 147 (0, [some (.inr (.inl 30)), some (.inl v)], [], n, D, s, p, c) (fun R H => ∃ (s' : Nat → Int) (c' : Nat → Nat → Int), R = .inl none ∧ H = (n, D, s', p, c') ∧ bS s' ∧ bC D c' ∧ fr s s' [3016] ∧ frc c c' [35] ∧ (s' 3016 = s 3016 + 1) ∧ (c' 35 = ua (c 35) (s 3016).toNat (nb v))) := by
  refine tt_k 6 (S' := (10, [some (.inr (.inl 30)), some (.inl v)], [.inl (mi_i2b v), .inl (s 3016), .inr (.inl 35)], n, D, s, p, c)) rfl ?_
  have b1 : 0 ≤ (s 3016) ∧ (s 3016) ≤ 65536 := hS 3016
  have e2 := mi_i2b_bd v
  refine tt_bst (i := (s 3016)) (x := (mi_i2b v)) rfl rfl (by omega) ?_
  show tt Zi d 147 (11, [some (.inr (.inl 30)), some (.inl v)], [], n, D, s, p, (uc c 35 (ua (c 35) ((s 3016)).toNat (mi_nb (mi_i2b v))))) _
  refine tt_k 6 (S' := (21, [some (.inr (.inl 30)), some (.inl v)], [], n, D, (us s 3016 ((s 3016) + 1)), p, (uc c 35 (ua (c 35) ((s 3016)).toNat (mi_nb (mi_i2b v)))))) rfl ?_
  exact tt_rtv rfl rfl ⟨(us s 3016 ((s 3016) + 1)), (uc c 35 (ua (c 35) ((s 3016)).toNat (mi_nb (mi_i2b v)))), rfl, rfl, (bS_us hS (show 0 ≤ ((s 3016) + 1) ∧ ((s 3016) + 1) ≤ 65536 by omega)), (bC_st hC (mi_nb_bd _)), (fr_us (by decide) fr_rf), (frc_uc (by decide) frc_rf), rfl, rfl⟩
set_option maxRecDepth 100000 in
set_option maxHeartbeats 4000000 in
theorem x_putBit {Zi : Nat → Option (Nat × (Nat → Int))} {d n : Nat} {D : Nat → Nat × Nat} {s : Nat → Int} {p : Nat → Nat} {c : Nat → Nat → Int} (hd : 1 ≤ d) (hS : bS s) (hC : bC D c) (W : WT) (v : Int) (b_v : 0 ≤ v ∧ v ≤ 1) (hp0 : w_ok (s 3047) (s 3048)) (hp1 : s 3016 ≤ 65535) (hp2 : wrl W (s 3016) (s 3047) (s 3048) (c 35)) : tt Zi d 159 (0, [some (.inr (.inl 30)), some (.inl v)], [], n, D, s, p, c) (fun R H => ∃ (s' : Nat → Int) (c' : Nat → Nat → Int), R = .inl none ∧ H = (n, D, s', p, c') ∧ bS s' ∧ bC D c' ∧ fr s s' [3016, 3047, 3048] ∧ frc c c' [35] ∧ (w_ok (s' 3047) (s' 3048)) ∧ (s 3016 ≤ s' 3016 ∧ s' 3016 ≤ s 3016 + 1) ∧ (wrl (wBit W v) (s' 3016) (s' 3047) (s' 3048) (c' 35))) := by
  have w1 := w_lo (size := s 3016) hp0
  refine tt_k 14 (S' := (22, [some (.inr (.inl 30)), some (.inl v)], [], n, D, (us (us s 3047 (((2 * (s 3047)) + v))) 3048 ((s 3048) - 1)), p, c)) rfl ?_
  refine tt_k 2 (S' := (26, [some (.inr (.inl 30)), some (.inl v)], [.inl ((s 3048) - 1)], n, D, (us (us s 3047 (((2 * (s 3047)) + v))) 3048 ((s 3048) - 1)), p, c)) rfl ?_
  have b2 : 0 ≤ (s 3048) ∧ (s 3048) ≤ 8 := hS 3048
  refine tz_ne (x := ((s 3048) - 1)) rfl rfl (by omega) (fun h3 => ?_) (fun h3 => ?_)
  · show tt Zi d 159 (63, [some (.inr (.inl 30)), some (.inl v)], [], n, D, (us (us s 3047 (((2 * (s 3047)) + v))) 3048 ((s 3048) - 1)), p, c) _
    have b4 : 0 ≤ (s 3047) ∧ (s 3047) ≤ 255 := hS 3047
    exact tt_rtv rfl rfl ⟨(us (us s 3047 (((2 * (s 3047)) + v))) 3048 ((s 3048) - 1)), c, rfl, rfl, (bS_us (bS_us hS (show 0 ≤ ((2 * (s 3047)) + v) ∧ ((2 * (s 3047)) + v) ≤ 255 by omega)) (show 0 ≤ ((s 3048) - 1) ∧ ((s 3048) - 1) ≤ 8 by omega)), hC, (fr_us (by decide) (fr_us (by decide) fr_rf)), frc_rf, by show w_ok ((((2 * (s 3047)) + v))) (((s 3048) - 1)); first | exact (w_bit1 (size := 0) hp0 b_v (by omega)).1 | exact w_ok0 (by omega), by show s 3016 ≤ (s 3016) ∧ (s 3016) ≤ s 3016 + 1; omega, by show wrl (wBit W v) ((s 3016)) ((((2 * (s 3047)) + v))) (((s 3048) - 1)) ((c 35)); exact wrl_b1 hp2 (by omega)⟩
  · show tt Zi d 159 (29, [some (.inr (.inl 30)), some (.inl v)], [], n, D, (us (us s 3047 (((2 * (s 3047)) + v))) 3048 ((s 3048) - 1)), p, c) _
    refine tt_k 3 (S' := (34, [some (.inr (.inl 30)), some (.inl v)], [.inl (((2 * (s 3047)) + v)), .inr (.inl 30)], n, D, (us (us s 3047 (((2 * (s 3047)) + v))) 3048 ((s 3048) - 1)), p, c)) rfl ?_
    have b5 : 0 ≤ (s 3047) ∧ (s 3047) ≤ 255 := hS 3047
    have b6 : 0 ≤ (s 3016) ∧ (s 3016) ≤ 65536 := hS 3016
    refine tt_cl (by omega) rfl (x_add (Zi := Zi) (D := D) (s := (us (us s 3047 (((2 * (s 3047)) + v))) 3048 ((s 3048) - 1))) (p := p) (c := c) (by omega) (bS_us (bS_us hS (show 0 ≤ ((2 * (s 3047)) + v) ∧ ((2 * (s 3047)) + v) ≤ 255 by omega)) (show 0 ≤ ((s 3048) - 1) ∧ ((s 3048) - 1) ≤ 8 by omega)) hC (((2 * (s 3047)) + v)) (by omega) (show (s 3016) ≤ 65535 by omega)) ?_
    rintro _ _ ⟨s7, c8, rfl, rfl, hS7, hC8, f9, g10, k11, k12⟩
    show tt Zi d 159 (37, [some (.inr (.inl 30)), some (.inl v)], [], n, D, s7, p, c8) _
    replace k11 : (s7 3016) = (s 3016) + 1 := k11
    replace k12 : (c8 35) = ua ((c 35)) ((s 3016)).toNat (nb (((2 * (s 3047)) + v))) := k12
    have b13 : 0 ≤ (s7 3016) ∧ (s7 3016) ≤ 65536 := hS7 3016
    have e14 : s7 3047 = ((2 * (s 3047)) + v) := (f9 3047 (by decide))
    have b15 : 0 ≤ (s7 3047) ∧ (s7 3047) ≤ 255 := hS7 3047
    have e16 : s7 3048 = ((s 3048) - 1) := (f9 3048 (by decide))
    have b17 : 0 ≤ (s7 3048) ∧ (s7 3048) ≤ 8 := hS7 3048
    refine tt_k 4 (S' := (45, [some (.inr (.inl 30)), some (.inl v)], [.inl 255, .inl (s7 3047), .inr (.inl 30)], n, D, s7, p, c8)) rfl ?_
    refine tb_ne (x := (s7 3047)) (y := 255) rfl rfl (by omega) (fun h18 => ?_) (fun h18 => ?_)
    · show tt Zi d 159 (53, [some (.inr (.inl 30)), some (.inl v)], [.inr (.inl 30)], n, D, s7, p, c8) _
      refine tt_k 5 (S' := (63, [some (.inr (.inl 30)), some (.inl v)], [], n, D, (us (us s7 3048 8) 3047 0), p, c8)) rfl ?_
      exact tt_rtv rfl rfl ⟨(us (us s7 3048 8) 3047 0), c8, rfl, rfl, (bS_us (bS_us hS7 (show 0 ≤ 8 ∧ 8 ≤ 8 by omega)) (show 0 ≤ 0 ∧ 0 ≤ 255 by omega)), hC8, (fr_us (by decide) (fr_us (by decide) (fr_tr (fr_us (by decide) (fr_us (by decide) fr_rf)) f9 (by decide)))), (frc_tr frc_rf g10 (by decide)), by show w_ok (0) (8); first | exact (w_bit1 (size := 0) hp0 b_v (by omega)).1 | exact w_ok0 (by omega), by show s 3016 ≤ (s7 3016) ∧ (s7 3016) ≤ s 3016 + 1; omega, by show wrl (wBit W v) ((s7 3016)) (0) (8) ((c8 35)); rw [k12, k11]; have hq := wrl_b2 (b := v) (g := c 35) hp2 (by omega) (by omega) (fun _ _ => rfl); rw [if_neg (by omega)] at hq; exact hq⟩
    · show tt Zi d 159 (48, [some (.inr (.inl 30)), some (.inl v)], [.inr (.inl 30)], n, D, s7, p, c8) _
      refine tt_k 6 (S' := (63, [some (.inr (.inl 30)), some (.inl v)], [], n, D, (us (us s7 3048 7) 3047 0), p, c8)) rfl ?_
      exact tt_rtv rfl rfl ⟨(us (us s7 3048 7) 3047 0), c8, rfl, rfl, (bS_us (bS_us hS7 (show 0 ≤ 7 ∧ 7 ≤ 8 by omega)) (show 0 ≤ 0 ∧ 0 ≤ 255 by omega)), hC8, (fr_us (by decide) (fr_us (by decide) (fr_tr (fr_us (by decide) (fr_us (by decide) fr_rf)) f9 (by decide)))), (frc_tr frc_rf g10 (by decide)), by show w_ok (0) (7); first | exact (w_bit1 (size := 0) hp0 b_v (by omega)).1 | exact w_ok0 (by omega), by show s 3016 ≤ (s7 3016) ∧ (s7 3016) ≤ s 3016 + 1; omega, by show wrl (wBit W v) ((s7 3016)) (0) (7) ((c8 35)); rw [k12, k11]; have hq := wrl_b2 (b := v) (g := c 35) hp2 (by omega) (by omega) (fun _ _ => rfl); rw [if_pos (by omega)] at hq; exact hq⟩
set_option maxRecDepth 100000 in
set_option maxHeartbeats 4000000 in
theorem x_putBits_L4 {Zi : Nat → Option (Nat × (Nat → Int))} {d n : Nat} {D : Nat → Nat × Nat} {s : Nat → Int} {p : Nat → Nat} {c : Nat → Nat → Int} {o_1 : Option mi_V} {Q : mi_Rs → mi_H → Prop} (hd : 2 ≤ d) (hS : bS s) (hC : bC D c) (R : WT) (U : Int) (hU : U ≤ 65535) (v : Int) (b_v : -2147483648 ≤ v ∧ v ≤ 2147483647)
  (hK : ∀ (k : Int) (s0 : Nat → Int) (c0 : Nat → Nat → Int) (b_k : -1 ≤ k ∧ k ≤ 63) (hS0 : bS s0) (hF0 : fr s s0 [3016, 3047, 3048]) (hC0 : bC D c0) (hG0 : frc c c0 [35]) (i0 : w_ok (s0 3047) (s0 3048)) (i1 : wLp k v R (s0 3016) (s0 3047) (s0 3048) (c0 35)) (i2 : k ≤ 31 ∨ v = 0) (i3 : s0 3016 + k + 1 ≤ U ∧ s 3016 ≤ s0 3016), (k = -1) → tt Zi d 160 (23, [some (.inr (.inl 30)), o_1, some (.inl v), some (.inl k)], [], n, D, s0, p, c0) Q) :
  ∀ (m : Nat) (k : Int) (s0 : Nat → Int) (c0 : Nat → Nat → Int) (b_k : -1 ≤ k ∧ k ≤ 63) (hS0 : bS s0) (hF0 : fr s s0 [3016, 3047, 3048]) (hC0 : bC D c0) (hG0 : frc c c0 [35]) (i0 : w_ok (s0 3047) (s0 3048)) (i1 : wLp k v R (s0 3016) (s0 3047) (s0 3048) (c0 35)) (i2 : k ≤ 31 ∨ v = 0) (i3 : s0 3016 + k + 1 ≤ U ∧ s 3016 ≤ s0 3016), (k + 1).toNat < m → tt Zi d 160 (4, [some (.inr (.inl 30)), o_1, some (.inl v), some (.inl k)], [], n, D, s0, p, c0) Q := by
  intro m
  induction m with
  | zero => intro k s0 c0 b_k hS0 hF0 hC0 hG0 i0 i1 i2 i3 hm; exact absurd hm (by omega)
  | succ m ih =>
    intro k s0 c0 b_k hS0 hF0 hC0 hG0 i0 i1 i2 i3 hm
    have hw0 := w_lo (size := s0 3016) i0
    obtain ⟨W1, hw1, hw2⟩ := i1
    have hbt := fun hk => bt_sh (v := v) (k := k) (by omega) hk i2
    refine tt_k 1 (S' := (5, [some (.inr (.inl 30)), o_1, some (.inl v), some (.inl k)], [.inl k], n, D, s0, p, c0)) rfl ?_
    refine tz_lt (x := k) rfl rfl (by omega) (fun h1 => ?_) (fun h1 => ?_)
    · show tt Zi d 160 (23, [some (.inr (.inl 30)), o_1, some (.inl v), some (.inl k)], [], n, D, s0, p, c0) _
      exact hK k s0 c0 (by omega) hS0 hF0 hC0 hG0 i0 ⟨W1, hw1, hw2⟩ i2 i3 (by omega)
    · show tt Zi d 160 (8, [some (.inr (.inl 30)), o_1, some (.inl v), some (.inl k)], [], n, D, s0, p, c0) _
      refine tt_k 6 (S' := (14, [some (.inr (.inl 30)), o_1, some (.inl v), some (.inl k)], [.inl (mi_and (mi_shr v k) 1), .inr (.inl 30)], n, D, s0, p, c0)) rfl ?_
      have e2 := mi_shr_bd v k
      have e3 := mi_and1 (mi_shr v k)
      have b4 : 0 ≤ (s0 3047) ∧ (s0 3047) ≤ 255 := hS0 3047
      have b5 : 0 ≤ (s0 3048) ∧ (s0 3048) ≤ 8 := hS0 3048
      have b6 : 0 ≤ (s0 3016) ∧ (s0 3016) ≤ 65536 := hS0 3016
      refine tt_cl (by omega) rfl (x_putBit (Zi := Zi) (D := D) (s := s0) (p := p) (c := c0) (by omega) hS0 hC0 W1 (mi_and (mi_shr v k) 1) (by omega) i0 (show (s0 3016) ≤ 65535 by omega) hw1) ?_
      rintro _ _ ⟨s7, c8, rfl, rfl, hS7, hC8, f9, g10, k11, k12, k13⟩
      show tt Zi d 160 (17, [some (.inr (.inl 30)), o_1, some (.inl v), some (.inl k)], [], n, D, s7, p, c8) _
      replace k11 : w_ok ((s7 3047)) ((s7 3048)) := k11
      replace k12 : (s0 3016) ≤ (s7 3016) ∧ (s7 3016) ≤ (s0 3016) + 1 := k12
      replace k13 : wrl (wBit W1 (mi_and (mi_shr v k) 1)) ((s7 3016)) ((s7 3047)) ((s7 3048)) ((c8 35)) := k13
      have b14 : 0 ≤ (s7 3047) ∧ (s7 3047) ≤ 255 := hS7 3047
      have b15 : 0 ≤ (s7 3048) ∧ (s7 3048) ≤ 8 := hS7 3048
      have b16 : 0 ≤ (s7 3016) ∧ (s7 3016) ≤ 65536 := hS7 3016
      refine tt_k 2 (S' := (4, [some (.inr (.inl 30)), o_1, some (.inl v), some (.inl (k + (-1)))], [], n, D, s7, p, c8)) rfl ?_
      exact ih (k + (-1)) s7 c8 (by omega) hS7 (fr_tr hF0 f9 (by decide)) hC8 (frc_tr hG0 g10 (by decide)) k11 ⟨_, k13, wLp_s hw2 (by omega) (hbt (by omega))⟩ (show (k + (-1)) ≤ 31 ∨ v = 0 by omega) (show (s7 3016) + (k + (-1)) + 1 ≤ U ∧ s 3016 ≤ (s7 3016) by omega) (show ((k + (-1)) + 1).toNat < m by omega)
set_option maxRecDepth 100000 in
set_option maxHeartbeats 4000000 in
theorem x_putBits {Zi : Nat → Option (Nat × (Nat → Int))} {d n : Nat} {D : Nat → Nat × Nat} {s : Nat → Int} {p : Nat → Nat} {c : Nat → Nat → Int} (hd : 2 ≤ d) (hS : bS s) (hC : bC D c) (W : WT) (n_ : Int) (v : Int) (b_n_ : 0 ≤ n_ ∧ n_ ≤ 64) (b_v : -2147483648 ≤ v ∧ v ≤ 2147483647) (hp0 : w_ok (s 3047) (s 3048)) (hp1 : s 3016 + n_ ≤ 65535) (hp2 : n_ ≤ 32 ∨ v = 0) (hp3 : wrl W (s 3016) (s 3047) (s 3048) (c 35)) : tt Zi d 160 (0, [some (.inr (.inl 30)), some (.inl n_), some (.inl v), none], [], n, D, s, p, c) (fun R H => ∃ (s' : Nat → Int) (c' : Nat → Nat → Int), R = .inl none ∧ H = (n, D, s', p, c') ∧ bS s' ∧ bC D c' ∧ fr s s' [3016, 3047, 3048] ∧ frc c c' [35] ∧ (w_ok (s' 3047) (s' 3048)) ∧ (s 3016 ≤ s' 3016 ∧ s' 3016 ≤ s 3016 + n_) ∧ (wrl (wBits n_.toNat v W) (s' 3016) (s' 3047) (s' 3048) (c' 35))) := by
  refine tt_k 4 (S' := (4, [some (.inr (.inl 30)), some (.inl n_), some (.inl v), some (.inl (n_ - 1))], [], n, D, s, p, c)) rfl ?_
  refine x_putBits_L4 (Zi := Zi) (D := D) (s := s) (p := p) (c := c) hd hS hC (wBits n_.toNat v W) (s 3016 + n_) hp1 v (by omega) ?_ _ (n_ - 1) s c (by omega) hS fr_rf hC frc_rf hp0 (wLp_0 hp3) (show (n_ - 1) ≤ 31 ∨ v = 0 by omega) (show ((s 3016)) + (n_ - 1) + 1 ≤ (s 3016 + n_) ∧ (s 3016) ≤ ((s 3016)) by omega) (Nat.lt_succ_self _)
  intro x1 s2 c3 b4 hS2 f5 hC3 g6 i7 i8 i9 i10 hx11
  show tt Zi d 160 (23, [some (.inr (.inl 30)), some (.inl n_), some (.inl v), some (.inl x1)], [], n, D, s2, p, c3) _
  exact tt_rtv rfl rfl ⟨s2, c3, rfl, rfl, hS2, hC3, (fr_tr fr_rf f5 (by decide)), (frc_tr frc_rf g6 (by decide)), i7, by show s 3016 ≤ (s2 3016) ∧ (s2 3016) ≤ s 3016 + n_; omega, (wLp_e i8 (by omega))⟩
set_option maxRecDepth 100000 in
set_option maxHeartbeats 4000000 in
theorem x_putNumber {Zi : Nat → Option (Nat × (Nat → Int))} {d n : Nat} {D : Nat → Nat × Nat} {s : Nat → Int} {p : Nat → Nat} {c : Nat → Nat → Int} (hd : 3 ≤ d) (hS : bS s) (hC : bC D c) (W : WT) (m_ : Int) (k_ : Int) (l_ : Int) (b_m_ : 0 ≤ m_ ∧ m_ ≤ 65536) (b_k_ : 0 ≤ k_ ∧ k_ ≤ 30) (b_l_ : 1 ≤ l_ ∧ l_ ≤ 65) (hp0 : w_ok (s 3047) (s 3048)) (hp1 : s 3016 + 100 ≤ 65535) (hp2 : 0 ≤ l_ - s 3025 - 1 ∧ l_ - s 3025 - 1 ≤ 64 ∧ s 3025 ≤ 30) (hp3 : wrl W (s 3016) (s 3047) (s 3048) (c 35)) : tt Zi d 164 (0, [some (.inr (.inl 30)), some (.inl m_), some (.inl k_), some (.inl l_), none], [], n, D, s, p, c) (fun R H => ∃ (s' : Nat → Int) (c' : Nat → Nat → Int), R = .inl none ∧ H = (n, D, s', p, c') ∧ bS s' ∧ bC D c' ∧ fr s s' [3016, 3047, 3048] ∧ frc c c' [35] ∧ (w_ok (s' 3047) (s' 3048)) ∧ (s 3016 ≤ s' 3016 ∧ s' 3016 ≤ s 3016 + 96) ∧ (wrl (wNum W m_ k_ (l_ - s 3025 - 1) (s 3025)) (s' 3016) (s' 3047) (s' 3048) (c' 35))) := by
  have hsd := mi_shr_div (x := m_) (k := k_) (by omega) (by omega) (by omega)
  refine tt_k 11 (S' := (15, [some (.inr (.inl 30)), some (.inl m_), some (.inl k_), some (.inl l_), some (.inl (mi_shr m_ k_))], [.inl (((l_ - (s 3025)) - 1)), .inl (mi_shr m_ k_)], n, D, s, p, c)) rfl ?_
  have e1 := mi_shr_nn (x := m_) (k := k_) (by omega) (by omega)
  have b2 : 0 ≤ (s 3025) ∧ (s 3025) ≤ 31 := hS 3025
  refine tb_ge (x := (mi_shr m_ k_)) (y := ((l_ - (s 3025)) - 1)) rfl rfl (by omega) (fun h3 => ?_) (fun h3 => ?_)
  · show tt Zi d 164 (45, [some (.inr (.inl 30)), some (.inl m_), some (.inl k_), some (.inl l_), some (.inl (mi_shr m_ k_))], [], n, D, s, p, c) _
    refine tt_k 8 (S' := (55, [some (.inr (.inl 30)), some (.inl m_), some (.inl k_), some (.inl l_), some (.inl (mi_shr m_ k_))], [.inl 0, .inl (((l_ - (s 3025)) - 1)), .inr (.inl 30)], n, D, s, p, c)) rfl ?_
    have b4 : 0 ≤ (s 3047) ∧ (s 3047) ≤ 255 := hS 3047
    have b5 : 0 ≤ (s 3048) ∧ (s 3048) ≤ 8 := hS 3048
    have b6 : 0 ≤ (s 3016) ∧ (s 3016) ≤ 65536 := hS 3016
    refine tt_cl (by omega) rfl (x_putBits (Zi := Zi) (D := D) (s := s) (p := p) (c := c) (by omega) hS hC W (((l_ - (s 3025)) - 1)) 0 (by omega) (by omega) hp0 (show (s 3016) + (((l_ - (s 3025)) - 1)) ≤ 65535 by omega) (show (((l_ - (s 3025)) - 1)) ≤ 32 ∨ 0 = 0 by omega) hp3) ?_
    rintro _ _ ⟨s7, c8, rfl, rfl, hS7, hC8, f9, g10, k11, k12, k13⟩
    show tt Zi d 164 (58, [some (.inr (.inl 30)), some (.inl m_), some (.inl k_), some (.inl l_), some (.inl (mi_shr m_ k_))], [], n, D, s7, p, c8) _
    replace k11 : w_ok ((s7 3047)) ((s7 3048)) := k11
    replace k12 : (s 3016) ≤ (s7 3016) ∧ (s7 3016) ≤ (s 3016) + (((l_ - (s 3025)) - 1)) := k12
    replace k13 : wrl (wBits (((l_ - (s 3025)) - 1)).toNat 0 W) ((s7 3016)) ((s7 3047)) ((s7 3048)) ((c8 35)) := k13
    have b14 : 0 ≤ (s7 3047) ∧ (s7 3047) ≤ 255 := hS7 3047
    have b15 : 0 ≤ (s7 3048) ∧ (s7 3048) ≤ 8 := hS7 3048
    have b16 : 0 ≤ (s7 3016) ∧ (s7 3016) ≤ 65536 := hS7 3016
    have e17 : s7 3025 = (s 3025) := (f9 3025 (by decide))
    have b18 : 0 ≤ (s7 3025) ∧ (s7 3025) ≤ 31 := hS7 3025
    refine tt_k 2 (S' := (60, [some (.inr (.inl 30)), some (.inl m_), some (.inl k_), some (.inl l_), some (.inl (mi_shr m_ k_))], [.inl 1, .inr (.inl 30)], n, D, s7, p, c8)) rfl ?_
    refine tt_cl (by omega) rfl (x_putBit (Zi := Zi) (D := D) (s := s7) (p := p) (c := c8) (by omega) hS7 hC8 (wBits (((l_ - (s 3025)) - 1)).toNat 0 W) 1 (by omega) k11 (show (s7 3016) ≤ 65535 by omega) k13) ?_
    rintro _ _ ⟨s19, c20, rfl, rfl, hS19, hC20, f21, g22, k23, k24, k25⟩
    show tt Zi d 164 (63, [some (.inr (.inl 30)), some (.inl m_), some (.inl k_), some (.inl l_), some (.inl (mi_shr m_ k_))], [], n, D, s19, p, c20) _
    replace k23 : w_ok ((s19 3047)) ((s19 3048)) := k23
    replace k24 : (s7 3016) ≤ (s19 3016) ∧ (s19 3016) ≤ (s7 3016) + 1 := k24
    replace k25 : wrl (wBit (wBits (((l_ - (s 3025)) - 1)).toNat 0 W) 1) ((s19 3016)) ((s19 3047)) ((s19 3048)) ((c20 35)) := k25
    have b26 : 0 ≤ (s19 3047) ∧ (s19 3047) ≤ 255 := hS19 3047
    have b27 : 0 ≤ (s19 3048) ∧ (s19 3048) ≤ 8 := hS19 3048
    have b28 : 0 ≤ (s19 3016) ∧ (s19 3016) ≤ 65536 := hS19 3016
    have e29 : s19 3025 = (s7 3025) := (f21 3025 (by decide))
    have b30 : 0 ≤ (s19 3025) ∧ (s19 3025) ≤ 31 := hS19 3025
    refine tt_k 6 (S' := (71, [some (.inr (.inl 30)), some (.inl m_), some (.inl k_), some (.inl l_), some (.inl (mi_shr m_ k_))], [.inl (m_ - 1), .inl (s19 3025), .inr (.inl 30)], n, D, s19, p, c20)) rfl ?_
    refine tt_cl (by omega) rfl (x_putBits (Zi := Zi) (D := D) (s := s19) (p := p) (c := c20) (by omega) hS19 hC20 (wBit (wBits (((l_ - (s 3025)) - 1)).toNat 0 W) 1) (s19 3025) (m_ - 1) (by omega) (by omega) k23 (show (s19 3016) + (s19 3025) ≤ 65535 by omega) (show (s19 3025) ≤ 32 ∨ (m_ - 1) = 0 by omega) k25) ?_
    rintro _ _ ⟨s31, c32, rfl, rfl, hS31, hC32, f33, g34, k35, k36, k37⟩
    show tt Zi d 164 (74, [some (.inr (.inl 30)), some (.inl m_), some (.inl k_), some (.inl l_), some (.inl (mi_shr m_ k_))], [], n, D, s31, p, c32) _
    replace k35 : w_ok ((s31 3047)) ((s31 3048)) := k35
    replace k36 : (s19 3016) ≤ (s31 3016) ∧ (s31 3016) ≤ (s19 3016) + (s19 3025) := k36
    replace k37 : wrl (wBits (s19 3025).toNat (m_ - 1) (wBit (wBits (((l_ - (s 3025)) - 1)).toNat 0 W) 1)) ((s31 3016)) ((s31 3047)) ((s31 3048)) ((c32 35)) := k37
    have b38 : 0 ≤ (s31 3047) ∧ (s31 3047) ≤ 255 := hS31 3047
    have b39 : 0 ≤ (s31 3048) ∧ (s31 3048) ≤ 8 := hS31 3048
    have b40 : 0 ≤ (s31 3016) ∧ (s31 3016) ≤ 65536 := hS31 3016
    have e41 : s31 3025 = (s19 3025) := (f33 3025 (by decide))
    have b42 : 0 ≤ (s31 3025) ∧ (s31 3025) ≤ 31 := hS31 3025
    exact tt_rtv rfl rfl ⟨s31, c32, rfl, rfl, hS31, hC32, (fr_tr (fr_tr (fr_tr fr_rf f9 (by decide)) f21 (by decide)) f33 (by decide)), (frc_tr (frc_tr (frc_tr frc_rf g10 (by decide)) g22 (by decide)) g34 (by decide)), k35, by show s 3016 ≤ (s31 3016) ∧ (s31 3016) ≤ s 3016 + 96; omega, by show wrl (wNum W m_ k_ (l_ - s 3025 - 1) (s 3025)) ((s31 3016)) ((s31 3047)) ((s31 3048)) ((c32 35)); have h := k37; rw [show s19 3025 = s 3025 by omega] at h; rw [wN2 (by omega) (by omega) (by omega)]; exact h⟩
  · show tt Zi d 164 (18, [some (.inr (.inl 30)), some (.inl m_), some (.inl k_), some (.inl l_), some (.inl (mi_shr m_ k_))], [], n, D, s, p, c) _
    refine tt_k 3 (S' := (22, [some (.inr (.inl 30)), some (.inl m_), some (.inl k_), some (.inl l_), some (.inl (mi_shr m_ k_))], [.inl 0, .inl (mi_shr m_ k_), .inr (.inl 30)], n, D, s, p, c)) rfl ?_
    have b43 : 0 ≤ (s 3047) ∧ (s 3047) ≤ 255 := hS 3047
    have b44 : 0 ≤ (s 3048) ∧ (s 3048) ≤ 8 := hS 3048
    have b45 : 0 ≤ (s 3016) ∧ (s 3016) ≤ 65536 := hS 3016
    refine tt_cl (by omega) rfl (x_putBits (Zi := Zi) (D := D) (s := s) (p := p) (c := c) (by omega) hS hC W (mi_shr m_ k_) 0 (by omega) (by omega) hp0 (show (s 3016) + (mi_shr m_ k_) ≤ 65535 by omega) (show (mi_shr m_ k_) ≤ 32 ∨ 0 = 0 by omega) hp3) ?_
    rintro _ _ ⟨s46, c47, rfl, rfl, hS46, hC47, f48, g49, k50, k51, k52⟩
    show tt Zi d 164 (25, [some (.inr (.inl 30)), some (.inl m_), some (.inl k_), some (.inl l_), some (.inl (mi_shr m_ k_))], [], n, D, s46, p, c47) _
    replace k50 : w_ok ((s46 3047)) ((s46 3048)) := k50
    replace k51 : (s 3016) ≤ (s46 3016) ∧ (s46 3016) ≤ (s 3016) + (mi_shr m_ k_) := k51
    replace k52 : wrl (wBits (mi_shr m_ k_).toNat 0 W) ((s46 3016)) ((s46 3047)) ((s46 3048)) ((c47 35)) := k52
    have b53 : 0 ≤ (s46 3047) ∧ (s46 3047) ≤ 255 := hS46 3047
    have b54 : 0 ≤ (s46 3048) ∧ (s46 3048) ≤ 8 := hS46 3048
    have b55 : 0 ≤ (s46 3016) ∧ (s46 3016) ≤ 65536 := hS46 3016
    have e56 : s46 3025 = (s 3025) := (f48 3025 (by decide))
    have b57 : 0 ≤ (s46 3025) ∧ (s46 3025) ≤ 31 := hS46 3025
    refine tt_k 2 (S' := (27, [some (.inr (.inl 30)), some (.inl m_), some (.inl k_), some (.inl l_), some (.inl (mi_shr m_ k_))], [.inl 1, .inr (.inl 30)], n, D, s46, p, c47)) rfl ?_
    refine tt_cl (by omega) rfl (x_putBit (Zi := Zi) (D := D) (s := s46) (p := p) (c := c47) (by omega) hS46 hC47 (wBits (mi_shr m_ k_).toNat 0 W) 1 (by omega) k50 (show (s46 3016) ≤ 65535 by omega) k52) ?_
    rintro _ _ ⟨s58, c59, rfl, rfl, hS58, hC59, f60, g61, k62, k63, k64⟩
    show tt Zi d 164 (30, [some (.inr (.inl 30)), some (.inl m_), some (.inl k_), some (.inl l_), some (.inl (mi_shr m_ k_))], [], n, D, s58, p, c59) _
    replace k62 : w_ok ((s58 3047)) ((s58 3048)) := k62
    replace k63 : (s46 3016) ≤ (s58 3016) ∧ (s58 3016) ≤ (s46 3016) + 1 := k63
    replace k64 : wrl (wBit (wBits (mi_shr m_ k_).toNat 0 W) 1) ((s58 3016)) ((s58 3047)) ((s58 3048)) ((c59 35)) := k64
    have b65 : 0 ≤ (s58 3047) ∧ (s58 3047) ≤ 255 := hS58 3047
    have b66 : 0 ≤ (s58 3048) ∧ (s58 3048) ≤ 8 := hS58 3048
    have b67 : 0 ≤ (s58 3016) ∧ (s58 3016) ≤ 65536 := hS58 3016
    have e68 : s58 3025 = (s46 3025) := (f60 3025 (by decide))
    have b69 : 0 ≤ (s58 3025) ∧ (s58 3025) ≤ 31 := hS58 3025
    refine tt_k 9 (S' := (39, [some (.inr (.inl 30)), some (.inl m_), some (.inl k_), some (.inl l_), some (.inl (mi_shr m_ k_))], [.inl ((mi_and m_ ((mi_shl 1 k_) - 1))), .inl k_, .inr (.inl 30)], n, D, s58, p, c59)) rfl ?_
    have e70 : 1 ≤ (mi_shl 1 k_) ∧ (mi_shl 1 k_) ≤ 1073741824 := mi_shl1b 0 30 (by omega) (by omega) (by decide)
    have e71 := mi_and_rg m_ ((mi_shl 1 k_) - 1)
    refine tt_cl (by omega) rfl (x_putBits (Zi := Zi) (D := D) (s := s58) (p := p) (c := c59) (by omega) hS58 hC59 (wBit (wBits (mi_shr m_ k_).toNat 0 W) 1) k_ ((mi_and m_ ((mi_shl 1 k_) - 1))) (by omega) (by omega) k62 (show (s58 3016) + k_ ≤ 65535 by omega) (show k_ ≤ 32 ∨ ((mi_and m_ ((mi_shl 1 k_) - 1))) = 0 by omega) k64) ?_
    rintro _ _ ⟨s72, c73, rfl, rfl, hS72, hC73, f74, g75, k76, k77, k78⟩
    show tt Zi d 164 (42, [some (.inr (.inl 30)), some (.inl m_), some (.inl k_), some (.inl l_), some (.inl (mi_shr m_ k_))], [], n, D, s72, p, c73) _
    replace k76 : w_ok ((s72 3047)) ((s72 3048)) := k76
    replace k77 : (s58 3016) ≤ (s72 3016) ∧ (s72 3016) ≤ (s58 3016) + k_ := k77
    replace k78 : wrl (wBits k_.toNat ((mi_and m_ ((mi_shl 1 k_) - 1))) (wBit (wBits (mi_shr m_ k_).toNat 0 W) 1)) ((s72 3016)) ((s72 3047)) ((s72 3048)) ((c73 35)) := k78
    have b79 : 0 ≤ (s72 3047) ∧ (s72 3047) ≤ 255 := hS72 3047
    have b80 : 0 ≤ (s72 3048) ∧ (s72 3048) ≤ 8 := hS72 3048
    have b81 : 0 ≤ (s72 3016) ∧ (s72 3016) ≤ 65536 := hS72 3016
    have e82 : s72 3025 = (s58 3025) := (f74 3025 (by decide))
    have b83 : 0 ≤ (s72 3025) ∧ (s72 3025) ≤ 31 := hS72 3025
    refine tt_k 1 (S' := (74, [some (.inr (.inl 30)), some (.inl m_), some (.inl k_), some (.inl l_), some (.inl (mi_shr m_ k_))], [], n, D, s72, p, c73)) rfl ?_
    exact tt_rtv rfl rfl ⟨s72, c73, rfl, rfl, hS72, hC73, (fr_tr (fr_tr (fr_tr fr_rf f48 (by decide)) f60 (by decide)) f74 (by decide)), (frc_tr (frc_tr (frc_tr frc_rf g49 (by decide)) g61 (by decide)) g75 (by decide)), k76, by show s 3016 ≤ (s72 3016) ∧ (s72 3016) ≤ s 3016 + 96; omega, by show wrl (wNum W m_ k_ (l_ - s 3025 - 1) (s 3025)) ((s72 3016)) ((s72 3047)) ((s72 3048)) ((c73 35)); first | (rw [wN1 (by omega) (by omega) (by omega)]; exact k78) | (rw [wN2 (by omega) (by omega) (by omega)]; exact k78)⟩
set_option maxRecDepth 100000 in
set_option maxHeartbeats 4000000 in
theorem x_gradeOf {Zi : Nat → Option (Nat × (Nat → Int))} {d n : Nat} {D : Nat → Nat × Nat} {s : Nat → Int} {p : Nat → Nat} {c : Nat → Nat → Int} (hd : 1 ≤ d) (hS : bS s) (hC : bC D c) (Z : Nat → Int) (v : Int) (b_v : -65535 ≤ v ∧ v ≤ 65535) (hp0 : zq Z (s 3017) (s 3018) (s 3019) (s 3020) (s 3021) (s 3022) (s 3023) (s 3024) (s 3025) (s 3026)) : tt Zi d 154 (0, [some (.inr (.inl 30)), some (.inl v), none, none], [], n, D, s, p, c) (fun R H => ∃ (r : Int), R = .inl (some (.inl r)) ∧ H = (n, D, s, p, c) ∧ (-4 ≤ r ∧ r ≤ 4) ∧ (r = fG Z v)) := by
  have hzq := hp0
  obtain ⟨z0, z1, z2, z3, z4, z5, z6, z7, z8, z9⟩ := hzq
  refine tt_k 1 (S' := (1, [some (.inr (.inl 30)), some (.inl v), none, none], [.inl v], n, D, s, p, c)) rfl ?_
  refine tt_cl (by omega) rfl (k_sizeOf (Zi := Zi) (D := D) (s := s) (p := p) (c := c) (by omega) hS hC v (by omega)) ?_
  rintro _ _ ⟨r1, rfl, rfl, b2, k3⟩
  show tt Zi d 154 (4, [some (.inr (.inl 30)), some (.inl v), none, none], [.inl r1], n, D, s, p, c) _
  replace k3 : r1 = if 0 ≤ v then v else -v := k3
  subst k3
  show tt Zi d 154 (4, [some (.inr (.inl 30)), some (.inl v), none, none], [.inl (if 0 ≤ v then v else -v)], n, D, s, p, c) _
  refine tt_k 4 (S' := (10, [some (.inr (.inl 30)), some (.inl v), some (.inl (if 0 ≤ v then v else -v)), none], [.inl (s 3018), .inl (if 0 ≤ v then v else -v)], n, D, s, p, c)) rfl ?_
  have b4 : -2147483648 ≤ (s 3018) ∧ (s 3018) ≤ 2147483647 := hS 3018
  refine tb_gt (x := (if 0 ≤ v then v else -v)) (y := (s 3018)) rfl rfl (by omega) (fun h5 => ?_) (fun h5 => ?_)
  · show tt Zi d 154 (17, [some (.inr (.inl 30)), some (.inl v), some (.inl (if 0 ≤ v then v else -v)), none], [], n, D, s, p, c) _
    refine tt_k 3 (S' := (22, [some (.inr (.inl 30)), some (.inl v), some (.inl (if 0 ≤ v then v else -v)), none], [.inl (s 3019), .inl (if 0 ≤ v then v else -v)], n, D, s, p, c)) rfl ?_
    have b6 : -2147483648 ≤ (s 3019) ∧ (s 3019) ≤ 2147483647 := hS 3019
    refine tb_ge (x := (if 0 ≤ v then v else -v)) (y := (s 3019)) rfl rfl (by omega) (fun h7 => ?_) (fun h7 => ?_)
    · show tt Zi d 154 (29, [some (.inr (.inl 30)), some (.inl v), some (.inl (if 0 ≤ v then v else -v)), none], [], n, D, s, p, c) _
      refine tt_k 3 (S' := (34, [some (.inr (.inl 30)), some (.inl v), some (.inl (if 0 ≤ v then v else -v)), none], [.inl (s 3020), .inl (if 0 ≤ v then v else -v)], n, D, s, p, c)) rfl ?_
      have b8 : -2147483648 ≤ (s 3020) ∧ (s 3020) ≤ 2147483647 := hS 3020
      refine tb_ge (x := (if 0 ≤ v then v else -v)) (y := (s 3020)) rfl rfl (by omega) (fun h9 => ?_) (fun h9 => ?_)
      · show tt Zi d 154 (41, [some (.inr (.inl 30)), some (.inl v), some (.inl (if 0 ≤ v then v else -v)), none], [], n, D, s, p, c) _
        refine tt_k 3 (S' := (46, [some (.inr (.inl 30)), some (.inl v), some (.inl (if 0 ≤ v then v else -v)), none], [.inl (s 3021), .inl (if 0 ≤ v then v else -v)], n, D, s, p, c)) rfl ?_
        have b10 : -2147483648 ≤ (s 3021) ∧ (s 3021) ≤ 2147483647 := hS 3021
        refine tb_ge (x := (if 0 ≤ v then v else -v)) (y := (s 3021)) rfl rfl (by omega) (fun h11 => ?_) (fun h11 => ?_)
        · show tt Zi d 154 (53, [some (.inr (.inl 30)), some (.inl v), some (.inl (if 0 ≤ v then v else -v)), none], [], n, D, s, p, c) _
          refine tt_k 3 (S' := (56, [some (.inr (.inl 30)), some (.inl v), some (.inl (if 0 ≤ v then v else -v)), some (.inl 4)], [.inl v], n, D, s, p, c)) rfl ?_
          refine tz_ge (x := v) rfl rfl (by omega) (fun h12 => ?_) (fun h12 => ?_)
          · show tt Zi d 154 (64, [some (.inr (.inl 30)), some (.inl v), some (.inl (if 0 ≤ v then v else -v)), some (.inl 4)], [], n, D, s, p, c) _
            refine tt_k 1 (S' := (65, [some (.inr (.inl 30)), some (.inl v), some (.inl (if 0 ≤ v then v else -v)), some (.inl 4)], [.inl 4], n, D, s, p, c)) rfl ?_
            exact tt_rti rfl rfl ⟨4, rfl, rfl, by omega, by show 4 = fG Z v; unfold fG fg fA; simp only [← z1, ← z2, ← z3, ← z4]; (repeat' split) <;> omega⟩
          · show tt Zi d 154 (59, [some (.inr (.inl 30)), some (.inl v), some (.inl (if 0 ≤ v then v else -v)), some (.inl 4)], [], n, D, s, p, c) _
            refine tt_k 3 (S' := (65, [some (.inr (.inl 30)), some (.inl v), some (.inl (if 0 ≤ v then v else -v)), some (.inl 4)], [.inl (-4)], n, D, s, p, c)) rfl ?_
            exact tt_rti rfl rfl ⟨(-4), rfl, rfl, by omega, by show (-4) = fG Z v; unfold fG fg fA; simp only [← z1, ← z2, ← z3, ← z4]; (repeat' split) <;> omega⟩
        · show tt Zi d 154 (49, [some (.inr (.inl 30)), some (.inl v), some (.inl (if 0 ≤ v then v else -v)), none], [], n, D, s, p, c) _
          refine tt_k 4 (S' := (56, [some (.inr (.inl 30)), some (.inl v), some (.inl (if 0 ≤ v then v else -v)), some (.inl 3)], [.inl v], n, D, s, p, c)) rfl ?_
          refine tz_ge (x := v) rfl rfl (by omega) (fun h13 => ?_) (fun h13 => ?_)
          · show tt Zi d 154 (64, [some (.inr (.inl 30)), some (.inl v), some (.inl (if 0 ≤ v then v else -v)), some (.inl 3)], [], n, D, s, p, c) _
            refine tt_k 1 (S' := (65, [some (.inr (.inl 30)), some (.inl v), some (.inl (if 0 ≤ v then v else -v)), some (.inl 3)], [.inl 3], n, D, s, p, c)) rfl ?_
            exact tt_rti rfl rfl ⟨3, rfl, rfl, by omega, by show 3 = fG Z v; unfold fG fg fA; simp only [← z1, ← z2, ← z3, ← z4]; (repeat' split) <;> omega⟩
          · show tt Zi d 154 (59, [some (.inr (.inl 30)), some (.inl v), some (.inl (if 0 ≤ v then v else -v)), some (.inl 3)], [], n, D, s, p, c) _
            refine tt_k 3 (S' := (65, [some (.inr (.inl 30)), some (.inl v), some (.inl (if 0 ≤ v then v else -v)), some (.inl 3)], [.inl (-3)], n, D, s, p, c)) rfl ?_
            exact tt_rti rfl rfl ⟨(-3), rfl, rfl, by omega, by show (-3) = fG Z v; unfold fG fg fA; simp only [← z1, ← z2, ← z3, ← z4]; (repeat' split) <;> omega⟩
      · show tt Zi d 154 (37, [some (.inr (.inl 30)), some (.inl v), some (.inl (if 0 ≤ v then v else -v)), none], [], n, D, s, p, c) _
        refine tt_k 4 (S' := (56, [some (.inr (.inl 30)), some (.inl v), some (.inl (if 0 ≤ v then v else -v)), some (.inl 2)], [.inl v], n, D, s, p, c)) rfl ?_
        refine tz_ge (x := v) rfl rfl (by omega) (fun h14 => ?_) (fun h14 => ?_)
        · show tt Zi d 154 (64, [some (.inr (.inl 30)), some (.inl v), some (.inl (if 0 ≤ v then v else -v)), some (.inl 2)], [], n, D, s, p, c) _
          refine tt_k 1 (S' := (65, [some (.inr (.inl 30)), some (.inl v), some (.inl (if 0 ≤ v then v else -v)), some (.inl 2)], [.inl 2], n, D, s, p, c)) rfl ?_
          exact tt_rti rfl rfl ⟨2, rfl, rfl, by omega, by show 2 = fG Z v; unfold fG fg fA; simp only [← z1, ← z2, ← z3, ← z4]; (repeat' split) <;> omega⟩
        · show tt Zi d 154 (59, [some (.inr (.inl 30)), some (.inl v), some (.inl (if 0 ≤ v then v else -v)), some (.inl 2)], [], n, D, s, p, c) _
          refine tt_k 3 (S' := (65, [some (.inr (.inl 30)), some (.inl v), some (.inl (if 0 ≤ v then v else -v)), some (.inl 2)], [.inl (-2)], n, D, s, p, c)) rfl ?_
          exact tt_rti rfl rfl ⟨(-2), rfl, rfl, by omega, by show (-2) = fG Z v; unfold fG fg fA; simp only [← z1, ← z2, ← z3, ← z4]; (repeat' split) <;> omega⟩
    · show tt Zi d 154 (25, [some (.inr (.inl 30)), some (.inl v), some (.inl (if 0 ≤ v then v else -v)), none], [], n, D, s, p, c) _
      refine tt_k 4 (S' := (56, [some (.inr (.inl 30)), some (.inl v), some (.inl (if 0 ≤ v then v else -v)), some (.inl 1)], [.inl v], n, D, s, p, c)) rfl ?_
      refine tz_ge (x := v) rfl rfl (by omega) (fun h15 => ?_) (fun h15 => ?_)
      · show tt Zi d 154 (64, [some (.inr (.inl 30)), some (.inl v), some (.inl (if 0 ≤ v then v else -v)), some (.inl 1)], [], n, D, s, p, c) _
        refine tt_k 1 (S' := (65, [some (.inr (.inl 30)), some (.inl v), some (.inl (if 0 ≤ v then v else -v)), some (.inl 1)], [.inl 1], n, D, s, p, c)) rfl ?_
        exact tt_rti rfl rfl ⟨1, rfl, rfl, by omega, by show 1 = fG Z v; unfold fG fg fA; simp only [← z1, ← z2, ← z3, ← z4]; (repeat' split) <;> omega⟩
      · show tt Zi d 154 (59, [some (.inr (.inl 30)), some (.inl v), some (.inl (if 0 ≤ v then v else -v)), some (.inl 1)], [], n, D, s, p, c) _
        refine tt_k 3 (S' := (65, [some (.inr (.inl 30)), some (.inl v), some (.inl (if 0 ≤ v then v else -v)), some (.inl 1)], [.inl (-1)], n, D, s, p, c)) rfl ?_
        exact tt_rti rfl rfl ⟨(-1), rfl, rfl, by omega, by show (-1) = fG Z v; unfold fG fg fA; simp only [← z1, ← z2, ← z3, ← z4]; (repeat' split) <;> omega⟩
  · show tt Zi d 154 (13, [some (.inr (.inl 30)), some (.inl v), some (.inl (if 0 ≤ v then v else -v)), none], [], n, D, s, p, c) _
    refine tt_k 4 (S' := (56, [some (.inr (.inl 30)), some (.inl v), some (.inl (if 0 ≤ v then v else -v)), some (.inl 0)], [.inl v], n, D, s, p, c)) rfl ?_
    refine tz_ge (x := v) rfl rfl (by omega) (fun h16 => ?_) (fun h16 => ?_)
    · show tt Zi d 154 (64, [some (.inr (.inl 30)), some (.inl v), some (.inl (if 0 ≤ v then v else -v)), some (.inl 0)], [], n, D, s, p, c) _
      refine tt_k 1 (S' := (65, [some (.inr (.inl 30)), some (.inl v), some (.inl (if 0 ≤ v then v else -v)), some (.inl 0)], [.inl 0], n, D, s, p, c)) rfl ?_
      exact tt_rti rfl rfl ⟨0, rfl, rfl, by omega, by show 0 = fG Z v; unfold fG fg fA; simp only [← z1, ← z2, ← z3, ← z4]; (repeat' split) <;> omega⟩
    · show tt Zi d 154 (59, [some (.inr (.inl 30)), some (.inl v), some (.inl (if 0 ≤ v then v else -v)), some (.inl 0)], [], n, D, s, p, c) _
      refine tt_k 3 (S' := (65, [some (.inr (.inl 30)), some (.inl v), some (.inl (if 0 ≤ v then v else -v)), some (.inl 0)], [.inl (-0)], n, D, s, p, c)) rfl ?_
      exact tt_rti rfl rfl ⟨(-0), rfl, rfl, by omega, by show (-0) = fG Z v; unfold fG fg fA; simp only [← z1, ← z2, ← z3, ← z4]; (repeat' split) <;> omega⟩
set_option maxRecDepth 100000 in
set_option maxHeartbeats 4000000 in
theorem x_errorOf {Zi : Nat → Option (Nat × (Nat → Int))} {d n : Nat} {D : Nat → Nat × Nat} {s : Nat → Int} {p : Nat → Nat} {c : Nat → Nat → Int} (hd : 0 ≤ d) (hS : bS s) (hC : bC D c) (Z : Nat → Int) (x : Int) (b_x : 0 ≤ x ∧ x ≤ 65535) (hp0 : mv s) (hp1 : x ≤ s 3017 ∧ 0 ≤ s 3045 ∧ s 3045 ≤ s 3017) (hp2 : zq Z (s 3017) (s 3018) (s 3019) (s 3020) (s 3021) (s 3022) (s 3023) (s 3024) (s 3025) (s 3026)) : tt Zi d 163 (0, [some (.inr (.inl 30)), some (.inl x), none], [], n, D, s, p, c) (fun R H => ∃ (r : Int), R = .inl (some (.inl r)) ∧ H = (n, D, s, p, c) ∧ (-65536 ≤ r ∧ r ≤ 65536) ∧ (r = eR Z (s 3045) (s 3046) x)) := by
  have mvx := mv_fx hp0
  have hzq := hp2
  obtain ⟨z0, z1, z2, z3, z4, z5, z6, z7, z8, z9⟩ := hzq
  refine tt_k 2 (S' := (4, [some (.inr (.inl 30)), some (.inl x), none], [.inl (s 3046)], n, D, s, p, c)) rfl ?_
  have b1 : 0 ≤ (s 3046) ∧ (s 3046) ≤ 1 := hS 3046
  refine tz_eq (x := (s 3046)) rfl rfl (by omega) (fun h2 => ?_) (fun h2 => ?_)
  · show tt Zi d 163 (16, [some (.inr (.inl 30)), some (.inl x), none], [], n, D, s, p, c) _
    refine tt_k 6 (S' := (24, [some (.inr (.inl 30)), some (.inl x), some (.inl (x - (s 3045)))], [.inl (x - (s 3045))], n, D, s, p, c)) rfl ?_
    have b3 : -65535 ≤ (s 3045) ∧ (s 3045) ≤ 131070 := hS 3045
    refine tz_le (x := (x - (s 3045))) rfl rfl (by omega) (fun h4 => ?_) (fun h4 => ?_)
    · show tt Zi d 163 (41, [some (.inr (.inl 30)), some (.inl x), some (.inl (x - (s 3045)))], [], n, D, s, p, c) _
      refine tt_k 6 (S' := (51, [some (.inr (.inl 30)), some (.inl x), some (.inl (x - (s 3045)))], [.inl (s 3023), .inl (((s 3018) - (x - (s 3045))))], n, D, s, p, c)) rfl ?_
      have b5 : -2147483648 ≤ (s 3018) ∧ (s 3018) ≤ 2147483647 := hS 3018
      have b6 : -2147483648 ≤ (s 3023) ∧ (s 3023) ≤ 2147483647 := hS 3023
      refine tt_dvp (x := ((s 3018) - (x - (s 3045)))) (y := (s 3023)) rfl (by omega) ?_
      show tt Zi d 163 (52, [some (.inr (.inl 30)), some (.inl x), some (.inl (x - (s 3045)))], [.inl ((((s 3018) - (x - (s 3045))) / (s 3023)))], n, D, s, p, c) _
      have b7 : 0 ≤ (((s 3018) - (x - (s 3045))) / (s 3023)) ∧ (((s 3018) - (x - (s 3045))) / (s 3023)) ≤ ((s 3018) - (x - (s 3045))) := td_le (by omega) (by omega)
      have b8 := mv_div hp0 (x := ((s 3018) - (x - (s 3045)))) (by omega)
      refine tt_k 3 (S' := (55, [some (.inr (.inl 30)), some (.inl x), some (.inl ((-(((s 3018) - (x - (s 3045))) / (s 3023)))))], [.inl ((-(((s 3018) - (x - (s 3045))) / (s 3023))))], n, D, s, p, c)) rfl ?_
      refine tz_ge (x := (-(((s 3018) - (x - (s 3045))) / (s 3023)))) rfl rfl (by omega) (fun h9 => ?_) (fun h9 => ?_)
      · show tt Zi d 163 (67, [some (.inr (.inl 30)), some (.inl x), some (.inl ((-(((s 3018) - (x - (s 3045))) / (s 3023)))))], [], n, D, s, p, c) _
        refine tt_k 8 (S' := (77, [some (.inr (.inl 30)), some (.inl x), some (.inl ((-(((s 3018) - (x - (s 3045))) / (s 3023)))))], [.inl 2, .inl ((s 3024) + 1), .inl ((-(((s 3018) - (x - (s 3045))) / (s 3023))))], n, D, s, p, c)) rfl ?_
        have b10 : -2147483648 ≤ (s 3024) ∧ (s 3024) ≤ 2147483647 := hS 3024
        refine tt_dvp (x := ((s 3024) + 1)) (y := 2) rfl (by omega) ?_
        show tt Zi d 163 (78, [some (.inr (.inl 30)), some (.inl x), some (.inl ((-(((s 3018) - (x - (s 3045))) / (s 3023)))))], [.inl ((((s 3024) + 1) / 2)), .inl ((-(((s 3018) - (x - (s 3045))) / (s 3023))))], n, D, s, p, c) _
        refine tb_lt (x := (-(((s 3018) - (x - (s 3045))) / (s 3023)))) (y := (((s 3024) + 1) / 2)) rfl rfl (by omega) (fun h11 => ?_) (fun h11 => ?_)
        · show tt Zi d 163 (90, [some (.inr (.inl 30)), some (.inl x), some (.inl ((-(((s 3018) - (x - (s 3045))) / (s 3023)))))], [], n, D, s, p, c) _
          refine tt_k 1 (S' := (91, [some (.inr (.inl 30)), some (.inl x), some (.inl ((-(((s 3018) - (x - (s 3045))) / (s 3023)))))], [.inl ((-(((s 3018) - (x - (s 3045))) / (s 3023))))], n, D, s, p, c)) rfl ?_
          exact tt_rti rfl rfl ⟨(-(((s 3018) - (x - (s 3045))) / (s 3023))), rfl, rfl, by omega, by show ((-(((s 3018) - (x - (s 3045))) / (s 3023)))) = eR Z (s 3045) (s 3046) x; unfold eR fE fE3 fE2 fE1; simp only [← z1, ← z6, ← z7]; (repeat' split) <;> omega⟩
        · exfalso; omega
      · show tt Zi d 163 (58, [some (.inr (.inl 30)), some (.inl x), some (.inl ((-(((s 3018) - (x - (s 3045))) / (s 3023)))))], [], n, D, s, p, c) _
        refine tt_k 12 (S' := (77, [some (.inr (.inl 30)), some (.inl x), some (.inl (((-(((s 3018) - (x - (s 3045))) / (s 3023))) + (s 3024))))], [.inl 2, .inl ((s 3024) + 1), .inl (((-(((s 3018) - (x - (s 3045))) / (s 3023))) + (s 3024)))], n, D, s, p, c)) rfl ?_
        have b12 : -2147483648 ≤ (s 3024) ∧ (s 3024) ≤ 2147483647 := hS 3024
        refine tt_dvp (x := ((s 3024) + 1)) (y := 2) rfl (by omega) ?_
        show tt Zi d 163 (78, [some (.inr (.inl 30)), some (.inl x), some (.inl (((-(((s 3018) - (x - (s 3045))) / (s 3023))) + (s 3024))))], [.inl ((((s 3024) + 1) / 2)), .inl (((-(((s 3018) - (x - (s 3045))) / (s 3023))) + (s 3024)))], n, D, s, p, c) _
        refine tb_lt (x := ((-(((s 3018) - (x - (s 3045))) / (s 3023))) + (s 3024))) (y := (((s 3024) + 1) / 2)) rfl rfl (by omega) (fun h13 => ?_) (fun h13 => ?_)
        · show tt Zi d 163 (90, [some (.inr (.inl 30)), some (.inl x), some (.inl (((-(((s 3018) - (x - (s 3045))) / (s 3023))) + (s 3024))))], [], n, D, s, p, c) _
          refine tt_k 1 (S' := (91, [some (.inr (.inl 30)), some (.inl x), some (.inl (((-(((s 3018) - (x - (s 3045))) / (s 3023))) + (s 3024))))], [.inl (((-(((s 3018) - (x - (s 3045))) / (s 3023))) + (s 3024)))], n, D, s, p, c)) rfl ?_
          exact tt_rti rfl rfl ⟨((-(((s 3018) - (x - (s 3045))) / (s 3023))) + (s 3024)), rfl, rfl, by omega, by show (((-(((s 3018) - (x - (s 3045))) / (s 3023))) + (s 3024))) = eR Z (s 3045) (s 3046) x; unfold eR fE fE3 fE2 fE1; simp only [← z1, ← z6, ← z7]; (repeat' split) <;> omega⟩
        · show tt Zi d 163 (81, [some (.inr (.inl 30)), some (.inl x), some (.inl (((-(((s 3018) - (x - (s 3045))) / (s 3023))) + (s 3024))))], [], n, D, s, p, c) _
          refine tt_k 5 (S' := (91, [some (.inr (.inl 30)), some (.inl x), some (.inl (((-(((s 3018) - (x - (s 3045))) / (s 3023))) + (s 3024))))], [.inl ((((-(((s 3018) - (x - (s 3045))) / (s 3023))) + (s 3024)) - (s 3024)))], n, D, s, p, c)) rfl ?_
          exact tt_rti rfl rfl ⟨(((-(((s 3018) - (x - (s 3045))) / (s 3023))) + (s 3024)) - (s 3024)), rfl, rfl, by omega, by show ((((-(((s 3018) - (x - (s 3045))) / (s 3023))) + (s 3024)) - (s 3024))) = eR Z (s 3045) (s 3046) x; unfold eR fE fE3 fE2 fE1; simp only [← z1, ← z6, ← z7]; (repeat' split) <;> omega⟩
    · show tt Zi d 163 (27, [some (.inr (.inl 30)), some (.inl x), some (.inl (x - (s 3045)))], [], n, D, s, p, c) _
      refine tt_k 6 (S' := (37, [some (.inr (.inl 30)), some (.inl x), some (.inl (x - (s 3045)))], [.inl (s 3023), .inl (((x - (s 3045)) + (s 3018)))], n, D, s, p, c)) rfl ?_
      have b14 : -2147483648 ≤ (s 3018) ∧ (s 3018) ≤ 2147483647 := hS 3018
      have b15 : -2147483648 ≤ (s 3023) ∧ (s 3023) ≤ 2147483647 := hS 3023
      refine tt_dvp (x := ((x - (s 3045)) + (s 3018))) (y := (s 3023)) rfl (by omega) ?_
      show tt Zi d 163 (38, [some (.inr (.inl 30)), some (.inl x), some (.inl (x - (s 3045)))], [.inl ((((x - (s 3045)) + (s 3018)) / (s 3023)))], n, D, s, p, c) _
      have b16 : 0 ≤ (((x - (s 3045)) + (s 3018)) / (s 3023)) ∧ (((x - (s 3045)) + (s 3018)) / (s 3023)) ≤ ((x - (s 3045)) + (s 3018)) := td_le (by omega) (by omega)
      have b17 := mv_div hp0 (x := ((x - (s 3045)) + (s 3018))) (by omega)
      refine tt_k 3 (S' := (55, [some (.inr (.inl 30)), some (.inl x), some (.inl ((((x - (s 3045)) + (s 3018)) / (s 3023))))], [.inl ((((x - (s 3045)) + (s 3018)) / (s 3023)))], n, D, s, p, c)) rfl ?_
      refine tz_ge (x := (((x - (s 3045)) + (s 3018)) / (s 3023))) rfl rfl (by omega) (fun h18 => ?_) (fun h18 => ?_)
      · show tt Zi d 163 (67, [some (.inr (.inl 30)), some (.inl x), some (.inl ((((x - (s 3045)) + (s 3018)) / (s 3023))))], [], n, D, s, p, c) _
        refine tt_k 8 (S' := (77, [some (.inr (.inl 30)), some (.inl x), some (.inl ((((x - (s 3045)) + (s 3018)) / (s 3023))))], [.inl 2, .inl ((s 3024) + 1), .inl ((((x - (s 3045)) + (s 3018)) / (s 3023)))], n, D, s, p, c)) rfl ?_
        have b19 : -2147483648 ≤ (s 3024) ∧ (s 3024) ≤ 2147483647 := hS 3024
        refine tt_dvp (x := ((s 3024) + 1)) (y := 2) rfl (by omega) ?_
        show tt Zi d 163 (78, [some (.inr (.inl 30)), some (.inl x), some (.inl ((((x - (s 3045)) + (s 3018)) / (s 3023))))], [.inl ((((s 3024) + 1) / 2)), .inl ((((x - (s 3045)) + (s 3018)) / (s 3023)))], n, D, s, p, c) _
        refine tb_lt (x := (((x - (s 3045)) + (s 3018)) / (s 3023))) (y := (((s 3024) + 1) / 2)) rfl rfl (by omega) (fun h20 => ?_) (fun h20 => ?_)
        · show tt Zi d 163 (90, [some (.inr (.inl 30)), some (.inl x), some (.inl ((((x - (s 3045)) + (s 3018)) / (s 3023))))], [], n, D, s, p, c) _
          refine tt_k 1 (S' := (91, [some (.inr (.inl 30)), some (.inl x), some (.inl ((((x - (s 3045)) + (s 3018)) / (s 3023))))], [.inl ((((x - (s 3045)) + (s 3018)) / (s 3023)))], n, D, s, p, c)) rfl ?_
          exact tt_rti rfl rfl ⟨(((x - (s 3045)) + (s 3018)) / (s 3023)), rfl, rfl, by omega, by show ((((x - (s 3045)) + (s 3018)) / (s 3023))) = eR Z (s 3045) (s 3046) x; unfold eR fE fE3 fE2 fE1; simp only [← z1, ← z6, ← z7]; (repeat' split) <;> omega⟩
        · show tt Zi d 163 (81, [some (.inr (.inl 30)), some (.inl x), some (.inl ((((x - (s 3045)) + (s 3018)) / (s 3023))))], [], n, D, s, p, c) _
          refine tt_k 5 (S' := (91, [some (.inr (.inl 30)), some (.inl x), some (.inl ((((x - (s 3045)) + (s 3018)) / (s 3023))))], [.inl (((((x - (s 3045)) + (s 3018)) / (s 3023)) - (s 3024)))], n, D, s, p, c)) rfl ?_
          exact tt_rti rfl rfl ⟨((((x - (s 3045)) + (s 3018)) / (s 3023)) - (s 3024)), rfl, rfl, by omega, by show (((((x - (s 3045)) + (s 3018)) / (s 3023)) - (s 3024))) = eR Z (s 3045) (s 3046) x; unfold eR fE fE3 fE2 fE1; simp only [← z1, ← z6, ← z7]; (repeat' split) <;> omega⟩
      · exfalso; omega
  · show tt Zi d 163 (7, [some (.inr (.inl 30)), some (.inl x), none], [], n, D, s, p, c) _
    refine tt_k 7 (S' := (24, [some (.inr (.inl 30)), some (.inl x), some (.inl ((s 3045) - x))], [.inl ((s 3045) - x)], n, D, s, p, c)) rfl ?_
    have b21 : -65535 ≤ (s 3045) ∧ (s 3045) ≤ 131070 := hS 3045
    refine tz_le (x := ((s 3045) - x)) rfl rfl (by omega) (fun h22 => ?_) (fun h22 => ?_)
    · show tt Zi d 163 (41, [some (.inr (.inl 30)), some (.inl x), some (.inl ((s 3045) - x))], [], n, D, s, p, c) _
      refine tt_k 6 (S' := (51, [some (.inr (.inl 30)), some (.inl x), some (.inl ((s 3045) - x))], [.inl (s 3023), .inl (((s 3018) - ((s 3045) - x)))], n, D, s, p, c)) rfl ?_
      have b23 : -2147483648 ≤ (s 3018) ∧ (s 3018) ≤ 2147483647 := hS 3018
      have b24 : -2147483648 ≤ (s 3023) ∧ (s 3023) ≤ 2147483647 := hS 3023
      refine tt_dvp (x := ((s 3018) - ((s 3045) - x))) (y := (s 3023)) rfl (by omega) ?_
      show tt Zi d 163 (52, [some (.inr (.inl 30)), some (.inl x), some (.inl ((s 3045) - x))], [.inl ((((s 3018) - ((s 3045) - x)) / (s 3023)))], n, D, s, p, c) _
      have b25 : 0 ≤ (((s 3018) - ((s 3045) - x)) / (s 3023)) ∧ (((s 3018) - ((s 3045) - x)) / (s 3023)) ≤ ((s 3018) - ((s 3045) - x)) := td_le (by omega) (by omega)
      have b26 := mv_div hp0 (x := ((s 3018) - ((s 3045) - x))) (by omega)
      refine tt_k 3 (S' := (55, [some (.inr (.inl 30)), some (.inl x), some (.inl ((-(((s 3018) - ((s 3045) - x)) / (s 3023)))))], [.inl ((-(((s 3018) - ((s 3045) - x)) / (s 3023))))], n, D, s, p, c)) rfl ?_
      refine tz_ge (x := (-(((s 3018) - ((s 3045) - x)) / (s 3023)))) rfl rfl (by omega) (fun h27 => ?_) (fun h27 => ?_)
      · show tt Zi d 163 (67, [some (.inr (.inl 30)), some (.inl x), some (.inl ((-(((s 3018) - ((s 3045) - x)) / (s 3023)))))], [], n, D, s, p, c) _
        refine tt_k 8 (S' := (77, [some (.inr (.inl 30)), some (.inl x), some (.inl ((-(((s 3018) - ((s 3045) - x)) / (s 3023)))))], [.inl 2, .inl ((s 3024) + 1), .inl ((-(((s 3018) - ((s 3045) - x)) / (s 3023))))], n, D, s, p, c)) rfl ?_
        have b28 : -2147483648 ≤ (s 3024) ∧ (s 3024) ≤ 2147483647 := hS 3024
        refine tt_dvp (x := ((s 3024) + 1)) (y := 2) rfl (by omega) ?_
        show tt Zi d 163 (78, [some (.inr (.inl 30)), some (.inl x), some (.inl ((-(((s 3018) - ((s 3045) - x)) / (s 3023)))))], [.inl ((((s 3024) + 1) / 2)), .inl ((-(((s 3018) - ((s 3045) - x)) / (s 3023))))], n, D, s, p, c) _
        refine tb_lt (x := (-(((s 3018) - ((s 3045) - x)) / (s 3023)))) (y := (((s 3024) + 1) / 2)) rfl rfl (by omega) (fun h29 => ?_) (fun h29 => ?_)
        · show tt Zi d 163 (90, [some (.inr (.inl 30)), some (.inl x), some (.inl ((-(((s 3018) - ((s 3045) - x)) / (s 3023)))))], [], n, D, s, p, c) _
          refine tt_k 1 (S' := (91, [some (.inr (.inl 30)), some (.inl x), some (.inl ((-(((s 3018) - ((s 3045) - x)) / (s 3023)))))], [.inl ((-(((s 3018) - ((s 3045) - x)) / (s 3023))))], n, D, s, p, c)) rfl ?_
          exact tt_rti rfl rfl ⟨(-(((s 3018) - ((s 3045) - x)) / (s 3023))), rfl, rfl, by omega, by show ((-(((s 3018) - ((s 3045) - x)) / (s 3023)))) = eR Z (s 3045) (s 3046) x; unfold eR fE fE3 fE2 fE1; simp only [← z1, ← z6, ← z7]; (repeat' split) <;> omega⟩
        · exfalso; omega
      · show tt Zi d 163 (58, [some (.inr (.inl 30)), some (.inl x), some (.inl ((-(((s 3018) - ((s 3045) - x)) / (s 3023)))))], [], n, D, s, p, c) _
        refine tt_k 12 (S' := (77, [some (.inr (.inl 30)), some (.inl x), some (.inl (((-(((s 3018) - ((s 3045) - x)) / (s 3023))) + (s 3024))))], [.inl 2, .inl ((s 3024) + 1), .inl (((-(((s 3018) - ((s 3045) - x)) / (s 3023))) + (s 3024)))], n, D, s, p, c)) rfl ?_
        have b30 : -2147483648 ≤ (s 3024) ∧ (s 3024) ≤ 2147483647 := hS 3024
        refine tt_dvp (x := ((s 3024) + 1)) (y := 2) rfl (by omega) ?_
        show tt Zi d 163 (78, [some (.inr (.inl 30)), some (.inl x), some (.inl (((-(((s 3018) - ((s 3045) - x)) / (s 3023))) + (s 3024))))], [.inl ((((s 3024) + 1) / 2)), .inl (((-(((s 3018) - ((s 3045) - x)) / (s 3023))) + (s 3024)))], n, D, s, p, c) _
        refine tb_lt (x := ((-(((s 3018) - ((s 3045) - x)) / (s 3023))) + (s 3024))) (y := (((s 3024) + 1) / 2)) rfl rfl (by omega) (fun h31 => ?_) (fun h31 => ?_)
        · show tt Zi d 163 (90, [some (.inr (.inl 30)), some (.inl x), some (.inl (((-(((s 3018) - ((s 3045) - x)) / (s 3023))) + (s 3024))))], [], n, D, s, p, c) _
          refine tt_k 1 (S' := (91, [some (.inr (.inl 30)), some (.inl x), some (.inl (((-(((s 3018) - ((s 3045) - x)) / (s 3023))) + (s 3024))))], [.inl (((-(((s 3018) - ((s 3045) - x)) / (s 3023))) + (s 3024)))], n, D, s, p, c)) rfl ?_
          exact tt_rti rfl rfl ⟨((-(((s 3018) - ((s 3045) - x)) / (s 3023))) + (s 3024)), rfl, rfl, by omega, by show (((-(((s 3018) - ((s 3045) - x)) / (s 3023))) + (s 3024))) = eR Z (s 3045) (s 3046) x; unfold eR fE fE3 fE2 fE1; simp only [← z1, ← z6, ← z7]; (repeat' split) <;> omega⟩
        · show tt Zi d 163 (81, [some (.inr (.inl 30)), some (.inl x), some (.inl (((-(((s 3018) - ((s 3045) - x)) / (s 3023))) + (s 3024))))], [], n, D, s, p, c) _
          refine tt_k 5 (S' := (91, [some (.inr (.inl 30)), some (.inl x), some (.inl (((-(((s 3018) - ((s 3045) - x)) / (s 3023))) + (s 3024))))], [.inl ((((-(((s 3018) - ((s 3045) - x)) / (s 3023))) + (s 3024)) - (s 3024)))], n, D, s, p, c)) rfl ?_
          exact tt_rti rfl rfl ⟨(((-(((s 3018) - ((s 3045) - x)) / (s 3023))) + (s 3024)) - (s 3024)), rfl, rfl, by omega, by show ((((-(((s 3018) - ((s 3045) - x)) / (s 3023))) + (s 3024)) - (s 3024))) = eR Z (s 3045) (s 3046) x; unfold eR fE fE3 fE2 fE1; simp only [← z1, ← z6, ← z7]; (repeat' split) <;> omega⟩
    · show tt Zi d 163 (27, [some (.inr (.inl 30)), some (.inl x), some (.inl ((s 3045) - x))], [], n, D, s, p, c) _
      refine tt_k 6 (S' := (37, [some (.inr (.inl 30)), some (.inl x), some (.inl ((s 3045) - x))], [.inl (s 3023), .inl ((((s 3045) - x) + (s 3018)))], n, D, s, p, c)) rfl ?_
      have b32 : -2147483648 ≤ (s 3018) ∧ (s 3018) ≤ 2147483647 := hS 3018
      have b33 : -2147483648 ≤ (s 3023) ∧ (s 3023) ≤ 2147483647 := hS 3023
      refine tt_dvp (x := (((s 3045) - x) + (s 3018))) (y := (s 3023)) rfl (by omega) ?_
      show tt Zi d 163 (38, [some (.inr (.inl 30)), some (.inl x), some (.inl ((s 3045) - x))], [.inl (((((s 3045) - x) + (s 3018)) / (s 3023)))], n, D, s, p, c) _
      have b34 : 0 ≤ ((((s 3045) - x) + (s 3018)) / (s 3023)) ∧ ((((s 3045) - x) + (s 3018)) / (s 3023)) ≤ (((s 3045) - x) + (s 3018)) := td_le (by omega) (by omega)
      have b35 := mv_div hp0 (x := (((s 3045) - x) + (s 3018))) (by omega)
      refine tt_k 3 (S' := (55, [some (.inr (.inl 30)), some (.inl x), some (.inl (((((s 3045) - x) + (s 3018)) / (s 3023))))], [.inl (((((s 3045) - x) + (s 3018)) / (s 3023)))], n, D, s, p, c)) rfl ?_
      refine tz_ge (x := ((((s 3045) - x) + (s 3018)) / (s 3023))) rfl rfl (by omega) (fun h36 => ?_) (fun h36 => ?_)
      · show tt Zi d 163 (67, [some (.inr (.inl 30)), some (.inl x), some (.inl (((((s 3045) - x) + (s 3018)) / (s 3023))))], [], n, D, s, p, c) _
        refine tt_k 8 (S' := (77, [some (.inr (.inl 30)), some (.inl x), some (.inl (((((s 3045) - x) + (s 3018)) / (s 3023))))], [.inl 2, .inl ((s 3024) + 1), .inl (((((s 3045) - x) + (s 3018)) / (s 3023)))], n, D, s, p, c)) rfl ?_
        have b37 : -2147483648 ≤ (s 3024) ∧ (s 3024) ≤ 2147483647 := hS 3024
        refine tt_dvp (x := ((s 3024) + 1)) (y := 2) rfl (by omega) ?_
        show tt Zi d 163 (78, [some (.inr (.inl 30)), some (.inl x), some (.inl (((((s 3045) - x) + (s 3018)) / (s 3023))))], [.inl ((((s 3024) + 1) / 2)), .inl (((((s 3045) - x) + (s 3018)) / (s 3023)))], n, D, s, p, c) _
        refine tb_lt (x := ((((s 3045) - x) + (s 3018)) / (s 3023))) (y := (((s 3024) + 1) / 2)) rfl rfl (by omega) (fun h38 => ?_) (fun h38 => ?_)
        · show tt Zi d 163 (90, [some (.inr (.inl 30)), some (.inl x), some (.inl (((((s 3045) - x) + (s 3018)) / (s 3023))))], [], n, D, s, p, c) _
          refine tt_k 1 (S' := (91, [some (.inr (.inl 30)), some (.inl x), some (.inl (((((s 3045) - x) + (s 3018)) / (s 3023))))], [.inl (((((s 3045) - x) + (s 3018)) / (s 3023)))], n, D, s, p, c)) rfl ?_
          exact tt_rti rfl rfl ⟨((((s 3045) - x) + (s 3018)) / (s 3023)), rfl, rfl, by omega, by show (((((s 3045) - x) + (s 3018)) / (s 3023))) = eR Z (s 3045) (s 3046) x; unfold eR fE fE3 fE2 fE1; simp only [← z1, ← z6, ← z7]; (repeat' split) <;> omega⟩
        · show tt Zi d 163 (81, [some (.inr (.inl 30)), some (.inl x), some (.inl (((((s 3045) - x) + (s 3018)) / (s 3023))))], [], n, D, s, p, c) _
          refine tt_k 5 (S' := (91, [some (.inr (.inl 30)), some (.inl x), some (.inl (((((s 3045) - x) + (s 3018)) / (s 3023))))], [.inl ((((((s 3045) - x) + (s 3018)) / (s 3023)) - (s 3024)))], n, D, s, p, c)) rfl ?_
          exact tt_rti rfl rfl ⟨(((((s 3045) - x) + (s 3018)) / (s 3023)) - (s 3024)), rfl, rfl, by omega, by show ((((((s 3045) - x) + (s 3018)) / (s 3023)) - (s 3024))) = eR Z (s 3045) (s 3046) x; unfold eR fE fE3 fE2 fE1; simp only [← z1, ← z6, ← z7]; (repeat' split) <;> omega⟩
      · exfalso; omega
set_option maxRecDepth 100000 in
set_option maxHeartbeats 4000000 in
theorem x_sampleOf {Zi : Nat → Option (Nat × (Nat → Int))} {d n : Nat} {D : Nat → Nat × Nat} {s : Nat → Int} {p : Nat → Nat} {c : Nat → Nat → Int} (hd : 1 ≤ d) (hS : bS s) (hC : bC D c) (Z : Nat → Int) (e : Int) (b_e : -65536 ≤ e ∧ e ≤ 65536) (hp0 : mv s) (hp1 : -65535 ≤ s 3045 ∧ s 3045 ≤ 131070) (hp2 : zq Z (s 3017) (s 3018) (s 3019) (s 3020) (s 3021) (s 3022) (s 3023) (s 3024) (s 3025) (s 3026)) : tt Zi d 171 (0, [some (.inr (.inl 30)), some (.inl e), none], [], n, D, s, p, c) (fun R H => ∃ (r : Int), R = .inl (some (.inl r)) ∧ H = (n, D, s, p, c) ∧ (0 ≤ r ∧ r ≤ 65535) ∧ (r = rR Z (s 3045) (s 3046) e)) := by
  have mvx := mv_fx hp0
  have hzq := hp2
  obtain ⟨z0, z1, z2, z3, z4, z5, z6, z7, z8, z9⟩ := hzq
  have hm := mul_bd (e := e) (st := s 3023) (a := 65536) (b := 511) (by omega) (by omega) (by omega) (by omega) (by omega)
  have hm2 : (-e) * s 3023 = -(e * s 3023) := Int.neg_mul _ _
  refine tt_k 4 (S' := (8, [some (.inr (.inl 30)), some (.inl e), none], [.inl (s 3046), .inl (s 3045)], n, D, s, p, c)) rfl ?_
  have b1 : 0 ≤ (s 3046) ∧ (s 3046) ≤ 1 := hS 3046
  refine tz_eq (x := (s 3046)) rfl rfl (by omega) (fun h2 => ?_) (fun h2 => ?_)
  · show tt Zi d 171 (21, [some (.inr (.inl 30)), some (.inl e), none], [.inl (s 3045)], n, D, s, p, c) _
    refine tt_k 10 (S' := (35, [some (.inr (.inl 30)), some (.inl e), some (.inl (((s 3045) + (e * (s 3023)))))], [.inl (-(s 3018)), .inl (((s 3045) + (e * (s 3023))))], n, D, s, p, c)) rfl ?_
    have b3 : -65535 ≤ (s 3045) ∧ (s 3045) ≤ 131070 := hS 3045
    have b4 : -2147483648 ≤ (s 3023) ∧ (s 3023) ≤ 2147483647 := hS 3023
    have m5 := mul_bd (e := e) (st := (s 3023)) (a := 65536) (b := 511) (by omega) (by omega) (by omega) (by omega) (by omega)
    have b6 : -2147483648 ≤ (s 3018) ∧ (s 3018) ≤ 2147483647 := hS 3018
    refine tb_ge (x := ((s 3045) + (e * (s 3023)))) (y := (-(s 3018))) rfl rfl (by omega) (fun h7 => ?_) (fun h7 => ?_)
    · show tt Zi d 171 (52, [some (.inr (.inl 30)), some (.inl e), some (.inl (((s 3045) + (e * (s 3023)))))], [], n, D, s, p, c) _
      refine tt_k 6 (S' := (62, [some (.inr (.inl 30)), some (.inl e), some (.inl (((s 3045) + (e * (s 3023)))))], [.inl ((s 3017) + (s 3018)), .inl (((s 3045) + (e * (s 3023))))], n, D, s, p, c)) rfl ?_
      have b8 : 0 ≤ (s 3017) ∧ (s 3017) ≤ 65535 := hS 3017
      refine tb_le (x := ((s 3045) + (e * (s 3023)))) (y := ((s 3017) + (s 3018))) rfl rfl (by omega) (fun h9 => ?_) (fun h9 => ?_)
      · show tt Zi d 171 (79, [some (.inr (.inl 30)), some (.inl e), some (.inl (((s 3045) + (e * (s 3023)))))], [], n, D, s, p, c) _
        refine tt_k 6 (S' := (87, [some (.inr (.inl 30)), some (.inl e), some (.inl (((s 3045) + (e * (s 3023)))))], [.inl (((s 3045) + (e * (s 3023)))), .inl (s 3017), .inl 0], n, D, s, p, c)) rfl ?_
        refine tt_cl (by omega) rfl (k_less (Zi := Zi) (D := D) (s := s) (p := p) (c := c) (by omega) hS hC (s 3017) (((s 3045) + (e * (s 3023)))) (by omega) (by omega)) ?_
        rintro _ _ ⟨r10, rfl, rfl, b11, k12⟩
        show tt Zi d 171 (90, [some (.inr (.inl 30)), some (.inl e), some (.inl (((s 3045) + (e * (s 3023)))))], [.inl r10, .inl 0], n, D, s, p, c) _
        replace k12 : r10 = min (s 3017) (((s 3045) + (e * (s 3023)))) := k12
        subst k12
        show tt Zi d 171 (90, [some (.inr (.inl 30)), some (.inl e), some (.inl (((s 3045) + (e * (s 3023)))))], [.inl ((min (s 3017) (((s 3045) + (e * (s 3023)))))), .inl 0], n, D, s, p, c) _
        refine tt_cl (by omega) rfl (k_more (Zi := Zi) (D := D) (s := s) (p := p) (c := c) (by omega) hS hC 0 ((min (s 3017) (((s 3045) + (e * (s 3023)))))) (by omega) (by omega)) ?_
        rintro _ _ ⟨r13, rfl, rfl, b14, k15⟩
        show tt Zi d 171 (93, [some (.inr (.inl 30)), some (.inl e), some (.inl (((s 3045) + (e * (s 3023)))))], [.inl r13], n, D, s, p, c) _
        replace k15 : r13 = max 0 ((min (s 3017) (((s 3045) + (e * (s 3023)))))) := k15
        subst k15
        show tt Zi d 171 (93, [some (.inr (.inl 30)), some (.inl e), some (.inl (((s 3045) + (e * (s 3023)))))], [.inl ((max 0 ((min (s 3017) (((s 3045) + (e * (s 3023))))))))], n, D, s, p, c) _
        exact tt_rti rfl rfl ⟨(max 0 ((min (s 3017) (((s 3045) + (e * (s 3023))))))), rfl, rfl, by omega, by show ((max 0 ((min (s 3017) (((s 3045) + (e * (s 3023)))))))) = rR Z (s 3045) (s 3046) e; unfold rR fR fW fR1; simp only [← z0, ← z1, ← z6, ← z7]; (repeat' split) <;> omega⟩
      · show tt Zi d 171 (65, [some (.inr (.inl 30)), some (.inl e), some (.inl (((s 3045) + (e * (s 3023)))))], [], n, D, s, p, c) _
        refine tt_k 13 (S' := (87, [some (.inr (.inl 30)), some (.inl e), some (.inl ((((s 3045) + (e * (s 3023))) - ((s 3024) * (s 3023)))))], [.inl ((((s 3045) + (e * (s 3023))) - ((s 3024) * (s 3023)))), .inl (s 3017), .inl 0], n, D, s, p, c)) rfl ?_
        have b16 : -2147483648 ≤ (s 3024) ∧ (s 3024) ≤ 2147483647 := hS 3024
        have m17 := mul_bd (e := (s 3024)) (st := (s 3023)) (a := 65536) (b := 511) (by omega) (by omega) (by omega) (by omega) (by omega)
        refine tt_cl (by omega) rfl (k_less (Zi := Zi) (D := D) (s := s) (p := p) (c := c) (by omega) hS hC (s 3017) ((((s 3045) + (e * (s 3023))) - ((s 3024) * (s 3023)))) (by omega) (by omega)) ?_
        rintro _ _ ⟨r18, rfl, rfl, b19, k20⟩
        show tt Zi d 171 (90, [some (.inr (.inl 30)), some (.inl e), some (.inl ((((s 3045) + (e * (s 3023))) - ((s 3024) * (s 3023)))))], [.inl r18, .inl 0], n, D, s, p, c) _
        replace k20 : r18 = min (s 3017) ((((s 3045) + (e * (s 3023))) - ((s 3024) * (s 3023)))) := k20
        subst k20
        show tt Zi d 171 (90, [some (.inr (.inl 30)), some (.inl e), some (.inl ((((s 3045) + (e * (s 3023))) - ((s 3024) * (s 3023)))))], [.inl ((min (s 3017) ((((s 3045) + (e * (s 3023))) - ((s 3024) * (s 3023)))))), .inl 0], n, D, s, p, c) _
        refine tt_cl (by omega) rfl (k_more (Zi := Zi) (D := D) (s := s) (p := p) (c := c) (by omega) hS hC 0 ((min (s 3017) ((((s 3045) + (e * (s 3023))) - ((s 3024) * (s 3023)))))) (by omega) (by omega)) ?_
        rintro _ _ ⟨r21, rfl, rfl, b22, k23⟩
        show tt Zi d 171 (93, [some (.inr (.inl 30)), some (.inl e), some (.inl ((((s 3045) + (e * (s 3023))) - ((s 3024) * (s 3023)))))], [.inl r21], n, D, s, p, c) _
        replace k23 : r21 = max 0 ((min (s 3017) ((((s 3045) + (e * (s 3023))) - ((s 3024) * (s 3023)))))) := k23
        subst k23
        show tt Zi d 171 (93, [some (.inr (.inl 30)), some (.inl e), some (.inl ((((s 3045) + (e * (s 3023))) - ((s 3024) * (s 3023)))))], [.inl ((max 0 ((min (s 3017) ((((s 3045) + (e * (s 3023))) - ((s 3024) * (s 3023))))))))], n, D, s, p, c) _
        exact tt_rti rfl rfl ⟨(max 0 ((min (s 3017) ((((s 3045) + (e * (s 3023))) - ((s 3024) * (s 3023))))))), rfl, rfl, by omega, by show ((max 0 ((min (s 3017) ((((s 3045) + (e * (s 3023))) - ((s 3024) * (s 3023)))))))) = rR Z (s 3045) (s 3046) e; unfold rR fR fW fR1; simp only [← z0, ← z1, ← z6, ← z7]; (repeat' split) <;> omega⟩
    · show tt Zi d 171 (38, [some (.inr (.inl 30)), some (.inl e), some (.inl (((s 3045) + (e * (s 3023)))))], [], n, D, s, p, c) _
      refine tt_k 13 (S' := (87, [some (.inr (.inl 30)), some (.inl e), some (.inl ((((s 3045) + (e * (s 3023))) + ((s 3024) * (s 3023)))))], [.inl ((((s 3045) + (e * (s 3023))) + ((s 3024) * (s 3023)))), .inl (s 3017), .inl 0], n, D, s, p, c)) rfl ?_
      have b24 : 0 ≤ (s 3017) ∧ (s 3017) ≤ 65535 := hS 3017
      have b25 : -2147483648 ≤ (s 3024) ∧ (s 3024) ≤ 2147483647 := hS 3024
      have m26 := mul_bd (e := (s 3024)) (st := (s 3023)) (a := 65536) (b := 511) (by omega) (by omega) (by omega) (by omega) (by omega)
      refine tt_cl (by omega) rfl (k_less (Zi := Zi) (D := D) (s := s) (p := p) (c := c) (by omega) hS hC (s 3017) ((((s 3045) + (e * (s 3023))) + ((s 3024) * (s 3023)))) (by omega) (by omega)) ?_
      rintro _ _ ⟨r27, rfl, rfl, b28, k29⟩
      show tt Zi d 171 (90, [some (.inr (.inl 30)), some (.inl e), some (.inl ((((s 3045) + (e * (s 3023))) + ((s 3024) * (s 3023)))))], [.inl r27, .inl 0], n, D, s, p, c) _
      replace k29 : r27 = min (s 3017) ((((s 3045) + (e * (s 3023))) + ((s 3024) * (s 3023)))) := k29
      subst k29
      show tt Zi d 171 (90, [some (.inr (.inl 30)), some (.inl e), some (.inl ((((s 3045) + (e * (s 3023))) + ((s 3024) * (s 3023)))))], [.inl ((min (s 3017) ((((s 3045) + (e * (s 3023))) + ((s 3024) * (s 3023)))))), .inl 0], n, D, s, p, c) _
      refine tt_cl (by omega) rfl (k_more (Zi := Zi) (D := D) (s := s) (p := p) (c := c) (by omega) hS hC 0 ((min (s 3017) ((((s 3045) + (e * (s 3023))) + ((s 3024) * (s 3023)))))) (by omega) (by omega)) ?_
      rintro _ _ ⟨r30, rfl, rfl, b31, k32⟩
      show tt Zi d 171 (93, [some (.inr (.inl 30)), some (.inl e), some (.inl ((((s 3045) + (e * (s 3023))) + ((s 3024) * (s 3023)))))], [.inl r30], n, D, s, p, c) _
      replace k32 : r30 = max 0 ((min (s 3017) ((((s 3045) + (e * (s 3023))) + ((s 3024) * (s 3023)))))) := k32
      subst k32
      show tt Zi d 171 (93, [some (.inr (.inl 30)), some (.inl e), some (.inl ((((s 3045) + (e * (s 3023))) + ((s 3024) * (s 3023)))))], [.inl ((max 0 ((min (s 3017) ((((s 3045) + (e * (s 3023))) + ((s 3024) * (s 3023))))))))], n, D, s, p, c) _
      exact tt_rti rfl rfl ⟨(max 0 ((min (s 3017) ((((s 3045) + (e * (s 3023))) + ((s 3024) * (s 3023))))))), rfl, rfl, by omega, by show ((max 0 ((min (s 3017) ((((s 3045) + (e * (s 3023))) + ((s 3024) * (s 3023)))))))) = rR Z (s 3045) (s 3046) e; unfold rR fR fW fR1; simp only [← z0, ← z1, ← z6, ← z7]; (repeat' split) <;> omega⟩
  · show tt Zi d 171 (11, [some (.inr (.inl 30)), some (.inl e), none], [.inl (s 3045)], n, D, s, p, c) _
    refine tt_k 12 (S' := (35, [some (.inr (.inl 30)), some (.inl e), some (.inl (((s 3045) + ((-e) * (s 3023)))))], [.inl (-(s 3018)), .inl (((s 3045) + ((-e) * (s 3023))))], n, D, s, p, c)) rfl ?_
    have b33 : -65535 ≤ (s 3045) ∧ (s 3045) ≤ 131070 := hS 3045
    have b34 : -2147483648 ≤ (s 3023) ∧ (s 3023) ≤ 2147483647 := hS 3023
    have m35 := mul_bd (e := (-e)) (st := (s 3023)) (a := 65536) (b := 511) (by omega) (by omega) (by omega) (by omega) (by omega)
    have b36 : -2147483648 ≤ (s 3018) ∧ (s 3018) ≤ 2147483647 := hS 3018
    refine tb_ge (x := ((s 3045) + ((-e) * (s 3023)))) (y := (-(s 3018))) rfl rfl (by omega) (fun h37 => ?_) (fun h37 => ?_)
    · show tt Zi d 171 (52, [some (.inr (.inl 30)), some (.inl e), some (.inl (((s 3045) + ((-e) * (s 3023)))))], [], n, D, s, p, c) _
      refine tt_k 6 (S' := (62, [some (.inr (.inl 30)), some (.inl e), some (.inl (((s 3045) + ((-e) * (s 3023)))))], [.inl ((s 3017) + (s 3018)), .inl (((s 3045) + ((-e) * (s 3023))))], n, D, s, p, c)) rfl ?_
      have b38 : 0 ≤ (s 3017) ∧ (s 3017) ≤ 65535 := hS 3017
      refine tb_le (x := ((s 3045) + ((-e) * (s 3023)))) (y := ((s 3017) + (s 3018))) rfl rfl (by omega) (fun h39 => ?_) (fun h39 => ?_)
      · show tt Zi d 171 (79, [some (.inr (.inl 30)), some (.inl e), some (.inl (((s 3045) + ((-e) * (s 3023)))))], [], n, D, s, p, c) _
        refine tt_k 6 (S' := (87, [some (.inr (.inl 30)), some (.inl e), some (.inl (((s 3045) + ((-e) * (s 3023)))))], [.inl (((s 3045) + ((-e) * (s 3023)))), .inl (s 3017), .inl 0], n, D, s, p, c)) rfl ?_
        refine tt_cl (by omega) rfl (k_less (Zi := Zi) (D := D) (s := s) (p := p) (c := c) (by omega) hS hC (s 3017) (((s 3045) + ((-e) * (s 3023)))) (by omega) (by omega)) ?_
        rintro _ _ ⟨r40, rfl, rfl, b41, k42⟩
        show tt Zi d 171 (90, [some (.inr (.inl 30)), some (.inl e), some (.inl (((s 3045) + ((-e) * (s 3023)))))], [.inl r40, .inl 0], n, D, s, p, c) _
        replace k42 : r40 = min (s 3017) (((s 3045) + ((-e) * (s 3023)))) := k42
        subst k42
        show tt Zi d 171 (90, [some (.inr (.inl 30)), some (.inl e), some (.inl (((s 3045) + ((-e) * (s 3023)))))], [.inl ((min (s 3017) (((s 3045) + ((-e) * (s 3023)))))), .inl 0], n, D, s, p, c) _
        refine tt_cl (by omega) rfl (k_more (Zi := Zi) (D := D) (s := s) (p := p) (c := c) (by omega) hS hC 0 ((min (s 3017) (((s 3045) + ((-e) * (s 3023)))))) (by omega) (by omega)) ?_
        rintro _ _ ⟨r43, rfl, rfl, b44, k45⟩
        show tt Zi d 171 (93, [some (.inr (.inl 30)), some (.inl e), some (.inl (((s 3045) + ((-e) * (s 3023)))))], [.inl r43], n, D, s, p, c) _
        replace k45 : r43 = max 0 ((min (s 3017) (((s 3045) + ((-e) * (s 3023)))))) := k45
        subst k45
        show tt Zi d 171 (93, [some (.inr (.inl 30)), some (.inl e), some (.inl (((s 3045) + ((-e) * (s 3023)))))], [.inl ((max 0 ((min (s 3017) (((s 3045) + ((-e) * (s 3023))))))))], n, D, s, p, c) _
        exact tt_rti rfl rfl ⟨(max 0 ((min (s 3017) (((s 3045) + ((-e) * (s 3023))))))), rfl, rfl, by omega, by show ((max 0 ((min (s 3017) (((s 3045) + ((-e) * (s 3023)))))))) = rR Z (s 3045) (s 3046) e; unfold rR fR fW fR1; simp only [← z0, ← z1, ← z6, ← z7]; (repeat' split) <;> omega⟩
      · show tt Zi d 171 (65, [some (.inr (.inl 30)), some (.inl e), some (.inl (((s 3045) + ((-e) * (s 3023)))))], [], n, D, s, p, c) _
        refine tt_k 13 (S' := (87, [some (.inr (.inl 30)), some (.inl e), some (.inl ((((s 3045) + ((-e) * (s 3023))) - ((s 3024) * (s 3023)))))], [.inl ((((s 3045) + ((-e) * (s 3023))) - ((s 3024) * (s 3023)))), .inl (s 3017), .inl 0], n, D, s, p, c)) rfl ?_
        have b46 : -2147483648 ≤ (s 3024) ∧ (s 3024) ≤ 2147483647 := hS 3024
        have m47 := mul_bd (e := (s 3024)) (st := (s 3023)) (a := 65536) (b := 511) (by omega) (by omega) (by omega) (by omega) (by omega)
        refine tt_cl (by omega) rfl (k_less (Zi := Zi) (D := D) (s := s) (p := p) (c := c) (by omega) hS hC (s 3017) ((((s 3045) + ((-e) * (s 3023))) - ((s 3024) * (s 3023)))) (by omega) (by omega)) ?_
        rintro _ _ ⟨r48, rfl, rfl, b49, k50⟩
        show tt Zi d 171 (90, [some (.inr (.inl 30)), some (.inl e), some (.inl ((((s 3045) + ((-e) * (s 3023))) - ((s 3024) * (s 3023)))))], [.inl r48, .inl 0], n, D, s, p, c) _
        replace k50 : r48 = min (s 3017) ((((s 3045) + ((-e) * (s 3023))) - ((s 3024) * (s 3023)))) := k50
        subst k50
        show tt Zi d 171 (90, [some (.inr (.inl 30)), some (.inl e), some (.inl ((((s 3045) + ((-e) * (s 3023))) - ((s 3024) * (s 3023)))))], [.inl ((min (s 3017) ((((s 3045) + ((-e) * (s 3023))) - ((s 3024) * (s 3023)))))), .inl 0], n, D, s, p, c) _
        refine tt_cl (by omega) rfl (k_more (Zi := Zi) (D := D) (s := s) (p := p) (c := c) (by omega) hS hC 0 ((min (s 3017) ((((s 3045) + ((-e) * (s 3023))) - ((s 3024) * (s 3023)))))) (by omega) (by omega)) ?_
        rintro _ _ ⟨r51, rfl, rfl, b52, k53⟩
        show tt Zi d 171 (93, [some (.inr (.inl 30)), some (.inl e), some (.inl ((((s 3045) + ((-e) * (s 3023))) - ((s 3024) * (s 3023)))))], [.inl r51], n, D, s, p, c) _
        replace k53 : r51 = max 0 ((min (s 3017) ((((s 3045) + ((-e) * (s 3023))) - ((s 3024) * (s 3023)))))) := k53
        subst k53
        show tt Zi d 171 (93, [some (.inr (.inl 30)), some (.inl e), some (.inl ((((s 3045) + ((-e) * (s 3023))) - ((s 3024) * (s 3023)))))], [.inl ((max 0 ((min (s 3017) ((((s 3045) + ((-e) * (s 3023))) - ((s 3024) * (s 3023))))))))], n, D, s, p, c) _
        exact tt_rti rfl rfl ⟨(max 0 ((min (s 3017) ((((s 3045) + ((-e) * (s 3023))) - ((s 3024) * (s 3023))))))), rfl, rfl, by omega, by show ((max 0 ((min (s 3017) ((((s 3045) + ((-e) * (s 3023))) - ((s 3024) * (s 3023)))))))) = rR Z (s 3045) (s 3046) e; unfold rR fR fW fR1; simp only [← z0, ← z1, ← z6, ← z7]; (repeat' split) <;> omega⟩
    · show tt Zi d 171 (38, [some (.inr (.inl 30)), some (.inl e), some (.inl (((s 3045) + ((-e) * (s 3023)))))], [], n, D, s, p, c) _
      refine tt_k 13 (S' := (87, [some (.inr (.inl 30)), some (.inl e), some (.inl ((((s 3045) + ((-e) * (s 3023))) + ((s 3024) * (s 3023)))))], [.inl ((((s 3045) + ((-e) * (s 3023))) + ((s 3024) * (s 3023)))), .inl (s 3017), .inl 0], n, D, s, p, c)) rfl ?_
      have b54 : 0 ≤ (s 3017) ∧ (s 3017) ≤ 65535 := hS 3017
      have b55 : -2147483648 ≤ (s 3024) ∧ (s 3024) ≤ 2147483647 := hS 3024
      have m56 := mul_bd (e := (s 3024)) (st := (s 3023)) (a := 65536) (b := 511) (by omega) (by omega) (by omega) (by omega) (by omega)
      refine tt_cl (by omega) rfl (k_less (Zi := Zi) (D := D) (s := s) (p := p) (c := c) (by omega) hS hC (s 3017) ((((s 3045) + ((-e) * (s 3023))) + ((s 3024) * (s 3023)))) (by omega) (by omega)) ?_
      rintro _ _ ⟨r57, rfl, rfl, b58, k59⟩
      show tt Zi d 171 (90, [some (.inr (.inl 30)), some (.inl e), some (.inl ((((s 3045) + ((-e) * (s 3023))) + ((s 3024) * (s 3023)))))], [.inl r57, .inl 0], n, D, s, p, c) _
      replace k59 : r57 = min (s 3017) ((((s 3045) + ((-e) * (s 3023))) + ((s 3024) * (s 3023)))) := k59
      subst k59
      show tt Zi d 171 (90, [some (.inr (.inl 30)), some (.inl e), some (.inl ((((s 3045) + ((-e) * (s 3023))) + ((s 3024) * (s 3023)))))], [.inl ((min (s 3017) ((((s 3045) + ((-e) * (s 3023))) + ((s 3024) * (s 3023)))))), .inl 0], n, D, s, p, c) _
      refine tt_cl (by omega) rfl (k_more (Zi := Zi) (D := D) (s := s) (p := p) (c := c) (by omega) hS hC 0 ((min (s 3017) ((((s 3045) + ((-e) * (s 3023))) + ((s 3024) * (s 3023)))))) (by omega) (by omega)) ?_
      rintro _ _ ⟨r60, rfl, rfl, b61, k62⟩
      show tt Zi d 171 (93, [some (.inr (.inl 30)), some (.inl e), some (.inl ((((s 3045) + ((-e) * (s 3023))) + ((s 3024) * (s 3023)))))], [.inl r60], n, D, s, p, c) _
      replace k62 : r60 = max 0 ((min (s 3017) ((((s 3045) + ((-e) * (s 3023))) + ((s 3024) * (s 3023)))))) := k62
      subst k62
      show tt Zi d 171 (93, [some (.inr (.inl 30)), some (.inl e), some (.inl ((((s 3045) + ((-e) * (s 3023))) + ((s 3024) * (s 3023)))))], [.inl ((max 0 ((min (s 3017) ((((s 3045) + ((-e) * (s 3023))) + ((s 3024) * (s 3023))))))))], n, D, s, p, c) _
      exact tt_rti rfl rfl ⟨(max 0 ((min (s 3017) ((((s 3045) + ((-e) * (s 3023))) + ((s 3024) * (s 3023))))))), rfl, rfl, by omega, by show ((max 0 ((min (s 3017) ((((s 3045) + ((-e) * (s 3023))) + ((s 3024) * (s 3023)))))))) = rR Z (s 3045) (s 3046) e; unfold rR fR fW fR1; simp only [← z0, ← z1, ← z6, ← z7]; (repeat' split) <;> omega⟩
