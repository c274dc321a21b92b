/-! the reference's tape, byte by byte -/
theorem wrt_a2 {W : WT} {z v : Int} {f : Nat → Int} (hw : wrt W z f) (hz : 0 ≤ z) : wrt (wAdd W v) (z + 1) (ua f z.toNat (nb v)) := wrb_add hw hz
theorem tu_s {f g : Nat → Int} {k v : Int} (h : ∀ i : Nat, (i : Int) < k → f i = g i) (hk : 0 ≤ k) (hv : v = g k.toNat) : ∀ i : Nat, (i : Int) < k + 1 → ua f k.toNat v i = g i := by
  intro i hi
  by_cases e : i = k.toNat
  · rw [e, ua_eq, hv]
  · rw [ua_ne e]
    exact h i (by omega)
set_option maxRecDepth 100000 in
set_option maxHeartbeats 4000000 in
theorem y_type_L3 {Zi : Nat → Option (Nat × (Nat → Int))} {d n : Nat} {D : Nat → Nat × Nat} {s : Nat → Int} {p : Nat → Nat} {c : Nat → Nat → Int}  {Q : mi_Rs → mi_H → Prop} (hd : 0 ≤ d) (hS : bS s) (hC : bC D c) (U : Int) (hU : U ≤ 32768) (R : WT) (v : Int) (b_v : -2147483648 ≤ v ∧ v ≤ 2147483647)
  (hK : ∀ (k : Int) (s0 : Nat → Int) (c0 : Nat → Nat → Int) (b_k : -8 ≤ k ∧ k ≤ 24) (hS0 : bS s0) (hF0 : fr s s0 [3014]) (hC0 : bC D c0) (hG0 : frc c c0 [34]) (i0 : 8 * s0 3014 + k + 8 = 8 * U) (i1 : ∃ W1, wrt W1 (s0 3014) (c0 34) ∧ pTy ((k + 8) / 8).toNat v W1 = R), (k = -8) → tt Zi d 181 (36, [some (.inr (.inl 30)), some (.inl v), some (.inl k)], [], n, D, s0, p, c0) Q) :
  ∀ (m : Nat) (k : Int) (s0 : Nat → Int) (c0 : Nat → Nat → Int) (b_k : -8 ≤ k ∧ k ≤ 24) (hS0 : bS s0) (hF0 : fr s s0 [3014]) (hC0 : bC D c0) (hG0 : frc c c0 [34]) (i0 : 8 * s0 3014 + k + 8 = 8 * U) (i1 : ∃ W1, wrt W1 (s0 3014) (c0 34) ∧ pTy ((k + 8) / 8).toNat v W1 = R), (k + 8).toNat < m → tt Zi d 181 (3, [some (.inr (.inl 30)), some (.inl v), some (.inl k)], [], n, D, s0, p, c0) Q := by
  intro m
  induction m with
  | zero => intro k s0 c0 b_k hS0 hF0 hC0 hG0 i0 i1 hm; exact absurd hm (by omega)
  | succ m ih =>
    intro k s0 c0 b_k hS0 hF0 hC0 hG0 i0 i1 hm
    obtain ⟨W1, hw1, hw2⟩ := i1
    refine tt_k 1 (S' := (4, [some (.inr (.inl 30)), some (.inl v), some (.inl k)], [.inl k], n, D, s0, p, c0)) rfl ?_
    refine tz_lt (x := k) rfl rfl (by omega) (fun h1 => ?_) (fun h1 => ?_)
    · show tt Zi d 181 (36, [some (.inr (.inl 30)), some (.inl v), some (.inl k)], [], n, D, s0, p, c0) _
      exact hK k s0 c0 (by omega) hS0 hF0 hC0 hG0 (show 8 * (s0 3014) + k + 8 = 8 * U by omega) ⟨W1, hw1, hw2⟩ (by omega)
    · show tt Zi d 181 (7, [some (.inr (.inl 30)), some (.inl v), some (.inl k)], [], n, D, s0, p, c0) _
      refine tt_k 8 (S' := (19, [some (.inr (.inl 30)), some (.inl v), some (.inl k)], [.inl (mi_i2b (mi_shr v k)), .inl (s0 3014), .inr (.inl 34)], n, D, s0, p, c0)) rfl ?_
      have b2 : 0 ≤ (s0 3014) ∧ (s0 3014) ≤ 32768 := hS0 3014
      have e3 := mi_shr_bd v k
      have e4 := mi_i2b_bd (mi_shr v k)
      refine tt_bst (i := (s0 3014)) (x := (mi_i2b (mi_shr v k))) rfl rfl (by omega) ?_
      show tt Zi d 181 (20, [some (.inr (.inl 30)), some (.inl v), some (.inl k)], [], n, D, s0, p, (uc c0 34 (ua (c0 34) ((s0 3014)).toNat (mi_nb (mi_i2b (mi_shr v k)))))) _
      refine tt_k 8 (S' := (3, [some (.inr (.inl 30)), some (.inl v), some (.inl (k + (-8)))], [], n, D, (us s0 3014 ((s0 3014) + 1)), p, (uc c0 34 (ua (c0 34) ((s0 3014)).toNat (mi_nb (mi_i2b (mi_shr v k))))))) rfl ?_
      have hk8 : ((k + 8) / 8).toNat = ((k + (-8) + 8) / 8).toNat + 1 := by omega
      have hk9 : 8 * ((((k + (-8) + 8) / 8).toNat : Nat) : Int) = k := by omega
      rw [hk8, pTy, hk9] at hw2
      have hwa := wrt_a2 (v := mi_shr v k) hw1 (by omega)
      exact ih (k + (-8)) (us s0 3014 ((s0 3014) + 1)) (uc c0 34 (ua (c0 34) ((s0 3014)).toNat (mi_nb (mi_i2b (mi_shr v k))))) (by omega) (bS_us hS0 (show 0 ≤ ((s0 3014) + 1) ∧ ((s0 3014) + 1) ≤ 32768 by omega)) (fr_us (by decide) hF0) (bC_st hC0 (mi_nb_bd _)) (frc_uc (by decide) hG0) (show 8 * ((s0 3014) + 1) + (k + (-8)) + 8 = 8 * U by omega) ⟨_, hwa, hw2⟩ (show ((k + (-8)) + 8).toNat < m by omega)
set_option maxRecDepth 100000 in
set_option maxHeartbeats 4000000 in
theorem y_type {Zi : Nat → Option (Nat × (Nat → Int))} {d n : Nat} {D : Nat → Nat × Nat} {s : Nat → Int} {p : Nat → Nat} {c : Nat → Nat → Int} (hd : 0 ≤ d) (hS : bS s) (hC : bC D c) (W : WT) (v : Int) (b_v : -2147483648 ≤ v ∧ v ≤ 2147483647) (hp0 : s 3014 ≤ 32764) (hp1 : wrt W (s 3014) (c 34)) : tt Zi d 181 (0, [some (.inr (.inl 30)), some (.inl v), none], [], n, D, s, p, c) (fun R H => ∃ (s' : Nat → Int) (c' : Nat → Nat → Int), R = .inl none ∧ H = (n, D, s', p, c') ∧ bS s' ∧ bC D c' ∧ fr s s' [3014] ∧ frc c c' [34] ∧ (s' 3014 = s 3014 + 4) ∧ (wrt (pTy 4 v W) (s' 3014) (c' 34))) := by
  refine tt_k 2 (S' := (3, [some (.inr (.inl 30)), some (.inl v), some (.inl 24)], [], n, D, s, p, c)) rfl ?_
  refine y_type_L3 (Zi := Zi) (D := D) (s := s) (p := p) (c := c) hd hS hC (s 3014 + 4) (by omega) (pTy 4 v W) v (by omega) ?_ _ 24 s c (by omega) hS fr_rf hC frc_rf (show 8 * ((s 3014)) + 24 + 8 = 8 * (s 3014 + 4) by omega) ⟨_, hp1, rfl⟩ (Nat.lt_succ_self _)
  intro x1 s2 c3 b4 hS2 f5 hC3 g6 i7 i8 hx9
  show tt Zi d 181 (36, [some (.inr (.inl 30)), some (.inl v), some (.inl x1)], [], n, D, s2, p, c3) _
  obtain ⟨W9, hw9, hw8⟩ := i8
  rw [show ((x1 + 8) / 8).toNat = 0 by omega, pTy] at hw8
  rw [hw8] at hw9
  exact tt_rtv rfl rfl ⟨s2, c3, rfl, rfl, hS2, hC3, (fr_tr fr_rf f5 (by decide)), (frc_tr frc_rf g6 (by decide)), by show (s2 3014) = s 3014 + 4; omega, hw9⟩
set_option maxRecDepth 100000 in
set_option maxHeartbeats 4000000 in
theorem y_feed {Zi : Nat → Option (Nat × (Nat → Int))} {d n : Nat} {D : Nat → Nat × Nat} {s : Nat → Int} {p : Nat → Nat} {c : Nat → Nat → Int} (hd : 1 ≤ d) (hS : bS s) (hC : bC D c) (W : WT) (a1 : Int) (a2 : Int) (a3 : Int) (a4 : Int) (a5 : Int) (b_a1 : -2147483648 ≤ a1 ∧ a1 ≤ 2147483647) (b_a2 : -2147483648 ≤ a2 ∧ a2 ≤ 2147483647) (b_a3 : -2147483648 ≤ a3 ∧ a3 ≤ 2147483647) (b_a4 : -2147483648 ≤ a4 ∧ a4 ≤ 2147483647) (b_a5 : -2147483648 ≤ a5 ∧ a5 ≤ 2147483647) (hp0 : wrt W (s 3014) (c 34)) : tt Zi d 180 (0, [some (.inr (.inl 30)), some (.inl a1), some (.inl a2), some (.inl a3), some (.inl a4), some (.inl a5)], [], n, D, s, p, c) (fun R H => ∃ (s' : Nat → Int) (c' : Nat → Nat → Int) (r : Int), R = .inl (some (.inl r)) ∧ H = (n, D, s', p, c') ∧ bS s' ∧ bC D c' ∧ fr s s' [3000, 3014] ∧ frc c c' [34] ∧ (0 ≤ r ∧ r ≤ 32768) ∧ (s' 3000 = if s 3014 + 20 ≤ 32768 then 0 else 1) ∧ (s' 3014 = if s 3014 + 20 ≤ 32768 then s 3014 + 20 else s 3014) ∧ (r = if s 3014 + 20 ≤ 32768 then s 3014 + 20 else 0) ∧ (s 3014 + 20 ≤ 32768 → wrt (pTy 4 a5 (pTy 4 a4 (pTy 4 a3 (pTy 4 a2 (pTy 4 a1 W))))) (s' 3014) (c' 34)) ∧ (¬ (s 3014 + 20 ≤ 32768) → c' 34 = c 34)) := by
  refine tt_k 6 (S' := (10, [some (.inr (.inl 30)), some (.inl a1), some (.inl a2), some (.inl a3), some (.inl a4), some (.inl a5)], [.inl 32768, .inl ((s 3014) + 20), .inr (.inl 30)], n, D, s, p, c)) rfl ?_
  have b1 : 0 ≤ (s 3014) ∧ (s 3014) ≤ 32768 := hS 3014
  have K3 : ∀ (j2 : Int) , (0 ≤ j2 ∧ j2 ≤ 1) → ((((s 3014) + 20) ≤ 32768 ∧ j2 = 0) ∨ (32768 < ((s 3014) + 20) ∧ j2 = 1)) → tt Zi d 180 (18, [some (.inr (.inl 30)), some (.inl a1), some (.inl a2), some (.inl a3), some (.inl a4), some (.inl a5)], [.inl j2, .inr (.inl 30)], n, D, s, p, c) (fun R H => ∃ (s' : Nat → Int) (c' : Nat → Nat → Int) (r : Int), R = .inl (some (.inl r)) ∧ H = (n, D, s', p, c') ∧ bS s' ∧ bC D c' ∧ fr s s' [3000, 3014] ∧ frc c c' [34] ∧ (0 ≤ r ∧ r ≤ 32768) ∧ (s' 3000 = if s 3014 + 20 ≤ 32768 then 0 else 1) ∧ (s' 3014 = if s 3014 + 20 ≤ 32768 then s 3014 + 20 else s 3014) ∧ (r = if s 3014 + 20 ≤ 32768 then s 3014 + 20 else 0) ∧ (s 3014 + 20 ≤ 32768 → wrt (pTy 4 a5 (pTy 4 a4 (pTy 4 a3 (pTy 4 a2 (pTy 4 a1 W))))) (s' 3014) (c' 34)) ∧ (¬ (s 3014 + 20 ≤ 32768) → c' 34 = c 34)) := by
    intro j2 b5 hj4
    refine tt_k 3 (S' := (25, [some (.inr (.inl 30)), some (.inl a1), some (.inl a2), some (.inl a3), some (.inl a4), some (.inl a5)], [.inl j2], n, D, (us s 3000 j2), p, c)) rfl ?_
    refine tz_le (x := j2) rfl rfl (by omega) (fun h6 => ?_) (fun h6 => ?_)
    · show tt Zi d 180 (30, [some (.inr (.inl 30)), some (.inl a1), some (.inl a2), some (.inl a3), some (.inl a4), some (.inl a5)], [], n, D, (us s 3000 j2), p, c) _
      refine tt_k 2 (S' := (32, [some (.inr (.inl 30)), some (.inl a1), some (.inl a2), some (.inl a3), some (.inl a4), some (.inl a5)], [.inl a1, .inr (.inl 30)], n, D, (us s 3000 j2), p, c)) rfl ?_
      refine tt_cl (by omega) rfl (y_type (Zi := Zi) (D := D) (s := (us s 3000 j2)) (p := p) (c := c) (by omega) (bS_us hS (show 0 ≤ j2 ∧ j2 ≤ 2 by omega)) hC W a1 (by omega) (show (s 3014) ≤ 32764 by omega) hp0) ?_
      rintro _ _ ⟨s7, c8, rfl, rfl, hS7, hC8, f9, g10, k11, k12⟩
      show tt Zi d 180 (35, [some (.inr (.inl 30)), some (.inl a1), some (.inl a2), some (.inl a3), some (.inl a4), some (.inl a5)], [], n, D, s7, p, c8) _
      replace k11 : (s7 3014) = (s 3014) + 4 := k11
      replace k12 : wrt (pTy 4 a1 W) ((s7 3014)) ((c8 34)) := k12
      have b13 : 0 ≤ (s7 3014) ∧ (s7 3014) ≤ 32768 := hS7 3014
      have e14 : s7 3000 = j2 := (f9 3000 (by decide))
      have b15 : 0 ≤ (s7 3000) ∧ (s7 3000) ≤ 2 := hS7 3000
      refine tt_k 2 (S' := (37, [some (.inr (.inl 30)), some (.inl a1), some (.inl a2), some (.inl a3), some (.inl a4), some (.inl a5)], [.inl a2, .inr (.inl 30)], n, D, s7, p, c8)) rfl ?_
      refine tt_cl (by omega) rfl (y_type (Zi := Zi) (D := D) (s := s7) (p := p) (c := c8) (by omega) hS7 hC8 (pTy 4 a1 W) a2 (by omega) (show (s7 3014) ≤ 32764 by omega) k12) ?_
      rintro _ _ ⟨s16, c17, rfl, rfl, hS16, hC17, f18, g19, k20, k21⟩
      show tt Zi d 180 (40, [some (.inr (.inl 30)), some (.inl a1), some (.inl a2), some (.inl a3), some (.inl a4), some (.inl a5)], [], n, D, s16, p, c17) _
      replace k20 : (s16 3014) = (s7 3014) + 4 := k20
      replace k21 : wrt (pTy 4 a2 (pTy 4 a1 W)) ((s16 3014)) ((c17 34)) := k21
      have b22 : 0 ≤ (s16 3014) ∧ (s16 3014) ≤ 32768 := hS16 3014
      have e23 : s16 3000 = (s7 3000) := (f18 3000 (by decide))
      have b24 : 0 ≤ (s16 3000) ∧ (s16 3000) ≤ 2 := hS16 3000
      refine tt_k 2 (S' := (42, [some (.inr (.inl 30)), some (.inl a1), some (.inl a2), some (.inl a3), some (.inl a4), some (.inl a5)], [.inl a3, .inr (.inl 30)], n, D, s16, p, c17)) rfl ?_
      refine tt_cl (by omega) rfl (y_type (Zi := Zi) (D := D) (s := s16) (p := p) (c := c17) (by omega) hS16 hC17 (pTy 4 a2 (pTy 4 a1 W)) a3 (by omega) (show (s16 3014) ≤ 32764 by omega) k21) ?_
      rintro _ _ ⟨s25, c26, rfl, rfl, hS25, hC26, f27, g28, k29, k30⟩
      show tt Zi d 180 (45, [some (.inr (.inl 30)), some (.inl a1), some (.inl a2), some (.inl a3), some (.inl a4), some (.inl a5)], [], n, D, s25, p, c26) _
      replace k29 : (s25 3014) = (s16 3014) + 4 := k29
      replace k30 : wrt (pTy 4 a3 (pTy 4 a2 (pTy 4 a1 W))) ((s25 3014)) ((c26 34)) := k30
      have b31 : 0 ≤ (s25 3014) ∧ (s25 3014) ≤ 32768 := hS25 3014
      have e32 : s25 3000 = (s16 3000) := (f27 3000 (by decide))
      have b33 : 0 ≤ (s25 3000) ∧ (s25 3000) ≤ 2 := hS25 3000
      refine tt_k 2 (S' := (48, [some (.inr (.inl 30)), some (.inl a1), some (.inl a2), some (.inl a3), some (.inl a4), some (.inl a5)], [.inl a4, .inr (.inl 30)], n, D, s25, p, c26)) rfl ?_
      refine tt_cl (by omega) rfl (y_type (Zi := Zi) (D := D) (s := s25) (p := p) (c := c26) (by omega) hS25 hC26 (pTy 4 a3 (pTy 4 a2 (pTy 4 a1 W))) a4 (by omega) (show (s25 3014) ≤ 32764 by omega) k30) ?_
      rintro _ _ ⟨s34, c35, rfl, rfl, hS34, hC35, f36, g37, k38, k39⟩
      show tt Zi d 180 (51, [some (.inr (.inl 30)), some (.inl a1), some (.inl a2), some (.inl a3), some (.inl a4), some (.inl a5)], [], n, D, s34, p, c35) _
      replace k38 : (s34 3014) = (s25 3014) + 4 := k38
      replace k39 : wrt (pTy 4 a4 (pTy 4 a3 (pTy 4 a2 (pTy 4 a1 W)))) ((s34 3014)) ((c35 34)) := k39
      have b40 : 0 ≤ (s34 3014) ∧ (s34 3014) ≤ 32768 := hS34 3014
      have e41 : s34 3000 = (s25 3000) := (f36 3000 (by decide))
      have b42 : 0 ≤ (s34 3000) ∧ (s34 3000) ≤ 2 := hS34 3000
      refine tt_k 2 (S' := (54, [some (.inr (.inl 30)), some (.inl a1), some (.inl a2), some (.inl a3), some (.inl a4), some (.inl a5)], [.inl a5, .inr (.inl 30)], n, D, s34, p, c35)) rfl ?_
      refine tt_cl (by omega) rfl (y_type (Zi := Zi) (D := D) (s := s34) (p := p) (c := c35) (by omega) hS34 hC35 (pTy 4 a4 (pTy 4 a3 (pTy 4 a2 (pTy 4 a1 W)))) a5 (by omega) (show (s34 3014) ≤ 32764 by omega) k39) ?_
      rintro _ _ ⟨s43, c44, rfl, rfl, hS43, hC44, f45, g46, k47, k48⟩
      show tt Zi d 180 (57, [some (.inr (.inl 30)), some (.inl a1), some (.inl a2), some (.inl a3), some (.inl a4), some (.inl a5)], [], n, D, s43, p, c44) _
      replace k47 : (s43 3014) = (s34 3014) + 4 := k47
      replace k48 : wrt (pTy 4 a5 (pTy 4 a4 (pTy 4 a3 (pTy 4 a2 (pTy 4 a1 W))))) ((s43 3014)) ((c44 34)) := k48
      have b49 : 0 ≤ (s43 3014) ∧ (s43 3014) ≤ 32768 := hS43 3014
      have e50 : s43 3000 = (s34 3000) := (f45 3000 (by decide))
      have b51 : 0 ≤ (s43 3000) ∧ (s43 3000) ≤ 2 := hS43 3000
      refine tt_k 2 (S' := (61, [some (.inr (.inl 30)), some (.inl a1), some (.inl a2), some (.inl a3), some (.inl a4), some (.inl a5)], [.inl (s43 3014)], n, D, s43, p, c44)) rfl ?_
      exact tt_rti rfl rfl ⟨s43, c44, (s43 3014), rfl, rfl, hS43, hC44, (fr_tr (fr_tr (fr_tr (fr_tr (fr_tr (fr_us (by decide) fr_rf) f9 (by decide)) f18 (by decide)) f27 (by decide)) f36 (by decide)) f45 (by decide)), (frc_tr (frc_tr (frc_tr (frc_tr (frc_tr frc_rf g10 (by decide)) g19 (by decide)) g28 (by decide)) g37 (by decide)) g46 (by decide)), by omega, by show (s43 3000) = if s 3014 + 20 ≤ 32768 then 0 else 1; first | (rw [if_pos (by omega)]; omega) | (rw [if_neg (by omega)]; omega) | rw [if_pos (by omega)] | rw [if_neg (by omega)], by show (s43 3014) = if s 3014 + 20 ≤ 32768 then s 3014 + 20 else s 3014; first | (rw [if_pos (by omega)]; omega) | (rw [if_neg (by omega)]; omega) | rw [if_pos (by omega)] | rw [if_neg (by omega)], by show (s43 3014) = if s 3014 + 20 ≤ 32768 then s 3014 + 20 else 0; first | (rw [if_pos (by omega)]; omega) | (rw [if_neg (by omega)]; omega) | rw [if_pos (by omega)] | rw [if_neg (by omega)], by show s 3014 + 20 ≤ 32768 → wrt (pTy 4 a5 (pTy 4 a4 (pTy 4 a3 (pTy 4 a2 (pTy 4 a1 W))))) ((s43 3014)) ((c44 34)); exact fun _ => k48, by show ¬ (s 3014 + 20 ≤ 32768) → (c44 34) = c 34; exact fun h => absurd (show s 3014 + 20 ≤ 32768 by omega) h⟩
    · show tt Zi d 180 (28, [some (.inr (.inl 30)), some (.inl a1), some (.inl a2), some (.inl a3), some (.inl a4), some (.inl a5)], [], n, D, (us s 3000 j2), p, c) _
      refine tt_k 1 (S' := (29, [some (.inr (.inl 30)), some (.inl a1), some (.inl a2), some (.inl a3), some (.inl a4), some (.inl a5)], [.inl 0], n, D, (us s 3000 j2), p, c)) rfl ?_
      exact tt_rti rfl rfl ⟨(us s 3000 j2), c, 0, rfl, rfl, (bS_us hS (show 0 ≤ j2 ∧ j2 ≤ 2 by omega)), hC, (fr_us (by decide) fr_rf), frc_rf, by omega, by show j2 = if s 3014 + 20 ≤ 32768 then 0 else 1; first | (rw [if_pos (by omega)]; omega) | (rw [if_neg (by omega)]; omega) | rw [if_pos (by omega)] | rw [if_neg (by omega)], by show (s 3014) = if s 3014 + 20 ≤ 32768 then s 3014 + 20 else s 3014; first | (rw [if_pos (by omega)]; omega) | (rw [if_neg (by omega)]; omega) | rw [if_pos (by omega)] | rw [if_neg (by omega)], by show 0 = if s 3014 + 20 ≤ 32768 then s 3014 + 20 else 0; first | (rw [if_pos (by omega)]; omega) | (rw [if_neg (by omega)]; omega) | rw [if_pos (by omega)] | rw [if_neg (by omega)], by show s 3014 + 20 ≤ 32768 → wrt (pTy 4 a5 (pTy 4 a4 (pTy 4 a3 (pTy 4 a2 (pTy 4 a1 W))))) ((s 3014)) ((c 34)); exact fun h => absurd h (by omega), by show ¬ (s 3014 + 20 ≤ 32768) → (c 34) = c 34; exact fun _ => rfl⟩
  refine tb_le (x := ((s 3014) + 20)) (y := 32768) rfl rfl (by omega) (fun h52 => ?_) (fun h52 => ?_)
  · show tt Zi d 180 (17, [some (.inr (.inl 30)), some (.inl a1), some (.inl a2), some (.inl a3), some (.inl a4), some (.inl a5)], [.inr (.inl 30)], n, D, s, p, c) _
    refine tt_k 1 (S' := (18, [some (.inr (.inl 30)), some (.inl a1), some (.inl a2), some (.inl a3), some (.inl a4), some (.inl a5)], [.inl 0, .inr (.inl 30)], n, D, s, p, c)) rfl ?_
    exact K3 0  (by omega) (Or.inl ⟨h52, rfl⟩)
  · show tt Zi d 180 (13, [some (.inr (.inl 30)), some (.inl a1), some (.inl a2), some (.inl a3), some (.inl a4), some (.inl a5)], [.inr (.inl 30)], n, D, s, p, c) _
    refine tt_k 2 (S' := (18, [some (.inr (.inl 30)), some (.inl a1), some (.inl a2), some (.inl a3), some (.inl a4), some (.inl a5)], [.inl 1, .inr (.inl 30)], n, D, s, p, c)) rfl ?_
    exact K3 1  (by omega) (Or.inr (⟨h52, rfl⟩))
set_option maxRecDepth 100000 in
set_option maxHeartbeats 4000000 in
theorem y_turn_L29 {Zi : Nat → Option (Nat × (Nat → Int))} {d n : Nat} {D : Nat → Nat × Nat} {s : Nat → Int} {p : Nat → Nat} {c : Nat → Nat → Int}  {Q : mi_Rs → mi_H → Prop} (hd : 0 ≤ d) (hS : bS s) (hC : bC D c) (hq0 : s 3016 ≤ 32768)
  (hK : ∀ (k : Int) (c0 : Nat → Nat → Int) (b_k : 0 ≤ k ∧ k ≤ 32768) (hC0 : bC D c0) (hG0 : frc c c0 [34]) (i0 : ∀ i : Nat, (i : Int) < k → c0 34 i = c 35 i), (s 3016 ≤ k) → tt Zi d 184 (55, [some (.inr (.inl 30)), some (.inl k)], [], n, D, s, p, c0) Q) :
  ∀ (m : Nat) (k : Int) (c0 : Nat → Nat → Int) (b_k : 0 ≤ k ∧ k ≤ 32768) (hC0 : bC D c0) (hG0 : frc c c0 [34]) (i0 : ∀ i : Nat, (i : Int) < k → c0 34 i = c 35 i), (s 3016 - k).toNat < m → tt Zi d 184 (29, [some (.inr (.inl 30)), some (.inl k)], [], n, D, s, p, c0) Q := by
  intro m
  induction m with
  | zero => intro k c0 b_k hC0 hG0 i0 hm; exact absurd hm (by omega)
  | succ m ih =>
    intro k c0 b_k hC0 hG0 i0 hm
    refine tt_k 3 (S' := (34, [some (.inr (.inl 30)), some (.inl k)], [.inl (s 3016), .inl k], n, D, s, p, c0)) rfl ?_
    have b1 : 0 ≤ (s 3016) ∧ (s 3016) ≤ 65536 := hS 3016
    refine tb_ge (x := k) (y := (s 3016)) rfl rfl (by omega) (fun h2 => ?_) (fun h2 => ?_)
    · show tt Zi d 184 (55, [some (.inr (.inl 30)), some (.inl k)], [], n, D, s, p, c0) _
      exact hK k c0 (by omega) hC0 hG0 i0 (by omega)
    · show tt Zi d 184 (37, [some (.inr (.inl 30)), some (.inl k)], [], n, D, s, p, c0) _
      refine tt_k 6 (S' := (47, [some (.inr (.inl 30)), some (.inl k)], [.inl k, .inr (.inl 35), .inl k, .inr (.inl 34)], n, D, s, p, c0)) rfl ?_
      refine tt_bldv (i := k) (v := (c0 35 (k).toNat)) rfl rfl (by omega) rfl ?_
      show tt Zi d 184 (48, [some (.inr (.inl 30)), some (.inl k)], [.inl (c0 35 (k).toNat), .inl k, .inr (.inl 34)], n, D, s, p, c0) _
      have b3 : -128 ≤ (c0 35 (k).toNat) ∧ (c0 35 (k).toNat) ≤ 127 := hC0 35 _
      refine tt_bst (i := k) (x := (c0 35 (k).toNat)) rfl rfl (by omega) ?_
      show tt Zi d 184 (49, [some (.inr (.inl 30)), some (.inl k)], [], n, D, s, p, (uc c0 34 (ua (c0 34) (k).toNat (mi_nb (c0 35 (k).toNat))))) _
      refine tt_k 2 (S' := (29, [some (.inr (.inl 30)), some (.inl (k + 1))], [], n, D, s, p, (uc c0 34 (ua (c0 34) (k).toNat (mi_nb (c0 35 (k).toNat)))))) rfl ?_
      exact ih (k + 1) (uc c0 34 (ua (c0 34) (k).toNat (mi_nb (c0 35 (k).toNat)))) (by omega) (bC_st hC0 (mi_nb_bd _)) (frc_uc (by decide) hG0) (tu_s i0 (by omega) (by rw [hG0 35 (by decide)]; exact mi_nb_id (hC 35 _))) (show (s 3016 - (k + 1)).toNat < m by omega)
set_option maxRecDepth 100000 in
set_option maxHeartbeats 4000000 in
theorem y_turn {Zi : Nat → Option (Nat × (Nat → Int))} {d n : Nat} {D : Nat → Nat × Nat} {s : Nat → Int} {p : Nat → Nat} {c : Nat → Nat → Int} (hd : 0 ≤ d) (hS : bS s) (hC : bC D c)  : tt Zi d 184 (0, [some (.inr (.inl 30)), none], [], n, D, s, p, c) (fun R H => ∃ (s' : Nat → Int) (c' : Nat → Nat → Int) (r : Int), R = .inl (some (.inl r)) ∧ H = (n, D, s', p, c') ∧ bS s' ∧ bC D c' ∧ fr s s' [3000, 3014] ∧ frc c c' [34] ∧ (0 ≤ r ∧ r ≤ 32768) ∧ (s' 3000 = if s 3016 ≤ 32768 then 0 else 1) ∧ (s' 3014 = if s 3016 ≤ 32768 then s 3016 else s 3014) ∧ (r = if s 3016 ≤ 32768 then s 3016 else 0) ∧ (s 3016 ≤ 32768 → ∀ i : Nat, (i : Int) < s 3016 → c' 34 i = c 35 i) ∧ (¬ (s 3016 ≤ 32768) → c' 34 = c 34)) := by
  refine tt_k 4 (S' := (7, [some (.inr (.inl 30)), none], [.inl 32768, .inl (s 3016), .inr (.inl 30)], n, D, s, p, c)) rfl ?_
  have b1 : 0 ≤ (s 3016) ∧ (s 3016) ≤ 65536 := hS 3016
  have K3 : ∀ (j2 : Int) , (0 ≤ j2 ∧ j2 ≤ 1) → (((s 3016) ≤ 32768 ∧ j2 = 0) ∨ (32768 < (s 3016) ∧ j2 = 1)) → tt Zi d 184 (15, [some (.inr (.inl 30)), none], [.inl j2, .inr (.inl 30)], n, D, s, p, c) (fun R H => ∃ (s' : Nat → Int) (c' : Nat → Nat → Int) (r : Int), R = .inl (some (.inl r)) ∧ H = (n, D, s', p, c') ∧ bS s' ∧ bC D c' ∧ fr s s' [3000, 3014] ∧ frc c c' [34] ∧ (0 ≤ r ∧ r ≤ 32768) ∧ (s' 3000 = if s 3016 ≤ 32768 then 0 else 1) ∧ (s' 3014 = if s 3016 ≤ 32768 then s 3016 else s 3014) ∧ (r = if s 3016 ≤ 32768 then s 3016 else 0) ∧ (s 3016 ≤ 32768 → ∀ i : Nat, (i : Int) < s 3016 → c' 34 i = c 35 i) ∧ (¬ (s 3016 ≤ 32768) → c' 34 = c 34)) := by
    intro j2 b5 hj4
    refine tt_k 3 (S' := (22, [some (.inr (.inl 30)), none], [.inl j2], n, D, (us s 3000 j2), p, c)) rfl ?_
    refine tz_le (x := j2) rfl rfl (by omega) (fun h6 => ?_) (fun h6 => ?_)
    · show tt Zi d 184 (27, [some (.inr (.inl 30)), none], [], n, D, (us s 3000 j2), p, c) _
      refine tt_k 2 (S' := (29, [some (.inr (.inl 30)), some (.inl 0)], [], n, D, (us s 3000 j2), p, c)) rfl ?_
      refine y_turn_L29 (Zi := Zi) (D := D) (s := (us s 3000 j2)) (p := p) (c := c) hd (bS_us hS (show 0 ≤ j2 ∧ j2 ≤ 2 by omega)) hC   (show (s 3016) ≤ 32768 by omega) ?_ _ 0 c (by omega) hC frc_rf (fun i hi => absurd hi (by omega)) (Nat.lt_succ_self _)
      intro x7 c8 b9 hC8 g10 i11 hx12
      show tt Zi d 184 (55, [some (.inr (.inl 30)), some (.inl x7)], [], n, D, (us s 3000 j2), p, c8) _
      refine tt_k 6 (S' := (67, [some (.inr (.inl 30)), some (.inl x7)], [.inl (s 3016)], n, D, (us (us s 3000 j2) 3014 (s 3016)), p, c8)) rfl ?_
      exact tt_rti rfl rfl ⟨(us (us s 3000 j2) 3014 (s 3016)), c8, (s 3016), rfl, rfl, (bS_us (bS_us hS (show 0 ≤ j2 ∧ j2 ≤ 2 by omega)) (show 0 ≤ (s 3016) ∧ (s 3016) ≤ 32768 by omega)), hC8, (fr_us (by decide) (fr_us (by decide) fr_rf)), (frc_tr frc_rf g10 (by decide)), by omega, by show j2 = if s 3016 ≤ 32768 then 0 else 1; first | (rw [if_pos (by omega)]; omega) | (rw [if_neg (by omega)]; omega) | rw [if_pos (by omega)] | rw [if_neg (by omega)], by show (s 3016) = if s 3016 ≤ 32768 then s 3016 else s 3014; first | (rw [if_pos (by omega)]; omega) | (rw [if_neg (by omega)]; omega) | rw [if_pos (by omega)] | rw [if_neg (by omega)], by show (s 3016) = if s 3016 ≤ 32768 then s 3016 else 0; first | (rw [if_pos (by omega)]; omega) | (rw [if_neg (by omega)]; omega) | rw [if_pos (by omega)] | rw [if_neg (by omega)], by show s 3016 ≤ 32768 → ∀ i : Nat, (i : Int) < s 3016 → (c8 34) i = c 35 i; exact fun _ i hi => i11 i (by have h : s 3016 ≤ x7 := hx12; omega), by show ¬ (s 3016 ≤ 32768) → (c8 34) = c 34; exact fun h => absurd (show s 3016 ≤ 32768 by omega) h⟩
    · show tt Zi d 184 (25, [some (.inr (.inl 30)), none], [], n, D, (us s 3000 j2), p, c) _
      refine tt_k 1 (S' := (26, [some (.inr (.inl 30)), none], [.inl 0], n, D, (us s 3000 j2), p, c)) rfl ?_
      exact tt_rti rfl rfl ⟨(us s 3000 j2), c, 0, rfl, rfl, (bS_us hS (show 0 ≤ j2 ∧ j2 ≤ 2 by omega)), hC, (fr_us (by decide) fr_rf), frc_rf, by omega, by show j2 = if s 3016 ≤ 32768 then 0 else 1; first | (rw [if_pos (by omega)]; omega) | (rw [if_neg (by omega)]; omega) | rw [if_pos (by omega)] | rw [if_neg (by omega)], by show (s 3014) = if s 3016 ≤ 32768 then s 3016 else s 3014; first | (rw [if_pos (by omega)]; omega) | (rw [if_neg (by omega)]; omega) | rw [if_pos (by omega)] | rw [if_neg (by omega)], by show 0 = if s 3016 ≤ 32768 then s 3016 else 0; first | (rw [if_pos (by omega)]; omega) | (rw [if_neg (by omega)]; omega) | rw [if_pos (by omega)] | rw [if_neg (by omega)], by show s 3016 ≤ 32768 → ∀ i : Nat, (i : Int) < s 3016 → (c 34) i = c 35 i; exact fun h => absurd h (by omega), by show ¬ (s 3016 ≤ 32768) → (c 34) = c 34; exact fun _ => rfl⟩
  refine tb_le (x := (s 3016)) (y := 32768) rfl rfl (by omega) (fun h13 => ?_) (fun h13 => ?_)
  · show tt Zi d 184 (14, [some (.inr (.inl 30)), none], [.inr (.inl 30)], n, D, s, p, c) _
    refine tt_k 1 (S' := (15, [some (.inr (.inl 30)), none], [.inl 0, .inr (.inl 30)], n, D, s, p, c)) rfl ?_
    exact K3 0  (by omega) (Or.inl ⟨h13, rfl⟩)
  · show tt Zi d 184 (10, [some (.inr (.inl 30)), none], [.inr (.inl 30)], n, D, s, p, c) _
    refine tt_k 2 (S' := (15, [some (.inr (.inl 30)), none], [.inl 1, .inr (.inl 30)], n, D, s, p, c)) rfl ?_
    exact K3 1  (by omega) (Or.inr (⟨h13, rfl⟩))
set_option maxRecDepth 100000 in
set_option maxHeartbeats 4000000 in
theorem y_change {Zi : Nat → Option (Nat × (Nat → Int))} {d n : Nat} {D : Nat → Nat × Nat} {s : Nat → Int} {p : Nat → Nat} {c : Nat → Nat → Int} (hd : 0 ≤ d) (hS : bS s) (hC : bC D c) (i : Int) (y : Int) (b_i : -2147483648 ≤ i ∧ i ≤ 2147483647) (b_y : -2147483648 ≤ y ∧ y ≤ 2147483647) : tt Zi d 183 (0, [some (.inr (.inl 30)), some (.inl i), some (.inl y)], [], n, D, s, p, c) (fun R H => ∃ (s' : Nat → Int) (c' : Nat → Nat → Int) (r : Int), R = .inl (some (.inl r)) ∧ H = (n, D, s', p, c') ∧ bS s' ∧ bC D c' ∧ fr s s' [3000] ∧ frc c c' [34] ∧ (0 ≤ r ∧ r ≤ 255) ∧ (s' 3000 = if 0 ≤ i ∧ i < s 3014 then (if 0 ≤ y ∧ y ≤ 255 then 0 else 2) else 1) ∧ (r = if (0 ≤ i ∧ i < s 3014) ∧ 0 ≤ y ∧ y ≤ 255 then mi_and (nb (mi_xor (c 34 i.toNat) y)) 255 else 0) ∧ (c' 34 = if (0 ≤ i ∧ i < s 3014) ∧ 0 ≤ y ∧ y ≤ 255 then ua (c 34) i.toNat (nb (mi_xor (c 34 i.toNat) y)) else c 34)) := by
  refine tt_k 2 (S' := (2, [some (.inr (.inl 30)), some (.inl i), some (.inl y)], [.inl i, .inr (.inl 30)], n, D, s, p, c)) rfl ?_
  have K2 : ∀ (j1 : Int) , (0 ≤ j1 ∧ j1 ≤ 2) → ((i < 0 ∧ j1 = 1) ∨ (0 ≤ i ∧ i < (s 3014) ∧ y < 0 ∧ j1 = 2) ∨ (0 ≤ i ∧ i < (s 3014) ∧ 0 ≤ y ∧ y ≤ 255 ∧ j1 = 0) ∨ (0 ≤ i ∧ i < (s 3014) ∧ 0 ≤ y ∧ 255 < y ∧ j1 = 2) ∨ (0 ≤ i ∧ (s 3014) ≤ i ∧ j1 = 1)) → tt Zi d 183 (33, [some (.inr (.inl 30)), some (.inl i), some (.inl y)], [.inl j1, .inr (.inl 30)], n, D, s, p, c) (fun R H => ∃ (s' : Nat → Int) (c' : Nat → Nat → Int) (r : Int), R = .inl (some (.inl r)) ∧ H = (n, D, s', p, c') ∧ bS s' ∧ bC D c' ∧ fr s s' [3000] ∧ frc c c' [34] ∧ (0 ≤ r ∧ r ≤ 255) ∧ (s' 3000 = if 0 ≤ i ∧ i < s 3014 then (if 0 ≤ y ∧ y ≤ 255 then 0 else 2) else 1) ∧ (r = if (0 ≤ i ∧ i < s 3014) ∧ 0 ≤ y ∧ y ≤ 255 then mi_and (nb (mi_xor (c 34 i.toNat) y)) 255 else 0) ∧ (c' 34 = if (0 ≤ i ∧ i < s 3014) ∧ 0 ≤ y ∧ y ≤ 255 then ua (c 34) i.toNat (nb (mi_xor (c 34 i.toNat) y)) else c 34)) := by
    intro j1 b4 hj3
    have b5 : 0 ≤ (s 3014) ∧ (s 3014) ≤ 32768 := hS 3014
    refine tt_k 3 (S' := (40, [some (.inr (.inl 30)), some (.inl i), some (.inl y)], [.inl j1], n, D, (us s 3000 j1), p, c)) rfl ?_
    refine tz_le (x := j1) rfl rfl (by omega) (fun h6 => ?_) (fun h6 => ?_)
    · show tt Zi d 183 (45, [some (.inr (.inl 30)), some (.inl i), some (.inl y)], [], n, D, (us s 3000 j1), p, c) _
      refine tt_k 6 (S' := (55, [some (.inr (.inl 30)), some (.inl i), some (.inl y)], [.inl i, .inr (.inl 34), .inl i, .inr (.inl 34)], n, D, (us s 3000 j1), p, c)) rfl ?_
      refine tt_bldv (i := i) (v := (c 34 (i).toNat)) rfl rfl (by omega) rfl ?_
      show tt Zi d 183 (56, [some (.inr (.inl 30)), some (.inl i), some (.inl y)], [.inl (c 34 (i).toNat), .inl i, .inr (.inl 34)], n, D, (us s 3000 j1), p, c) _
      have b7 : -128 ≤ (c 34 (i).toNat) ∧ (c 34 (i).toNat) ≤ 127 := hC 34 _
      refine tt_k 3 (S' := (59, [some (.inr (.inl 30)), some (.inl i), some (.inl y)], [.inl ((mi_i2b (mi_xor (c 34 (i).toNat) y))), .inl i, .inr (.inl 34)], n, D, (us s 3000 j1), p, c)) rfl ?_
      have e8 := mi_xor_bd (c 34 (i).toNat) y
      have e9 := mi_i2b_bd ((mi_xor (c 34 (i).toNat) y))
      refine tt_bst (i := i) (x := (mi_i2b (mi_xor (c 34 (i).toNat) y))) rfl rfl (by omega) ?_
      show tt Zi d 183 (60, [some (.inr (.inl 30)), some (.inl i), some (.inl y)], [], n, D, (us s 3000 j1), p, (uc c 34 (ua (c 34) (i).toNat (mi_nb ((mi_i2b (mi_xor (c 34 (i).toNat) y))))))) _
      refine tt_k 3 (S' := (65, [some (.inr (.inl 30)), some (.inl i), some (.inl y)], [.inl i, .inr (.inl 34)], n, D, (us s 3000 j1), p, (uc c 34 (ua (c 34) (i).toNat (mi_nb ((mi_i2b (mi_xor (c 34 (i).toNat) y)))))))) rfl ?_
      refine tt_bldv (i := i) (v := (mi_nb (mi_i2b (mi_xor (c 34 (i).toNat) y)))) rfl rfl (by omega) ua_eq ?_
      show tt Zi d 183 (66, [some (.inr (.inl 30)), some (.inl i), some (.inl y)], [.inl ((mi_nb (mi_i2b (mi_xor (c 34 (i).toNat) y))))], n, D, (us s 3000 j1), p, (uc c 34 (ua (c 34) (i).toNat (mi_nb ((mi_i2b (mi_xor (c 34 (i).toNat) y))))))) _
      refine tt_k 2 (S' := (70, [some (.inr (.inl 30)), some (.inl i), some (.inl y)], [.inl ((mi_and (mi_nb (mi_i2b (mi_xor (c 34 (i).toNat) y))) 255))], n, D, (us s 3000 j1), p, (uc c 34 (ua (c 34) (i).toNat (mi_nb ((mi_i2b (mi_xor (c 34 (i).toNat) y)))))))) rfl ?_
      have e10 := mi_and255 ((mi_nb (mi_i2b (mi_xor (c 34 (i).toNat) y))))
      exact tt_rti rfl rfl ⟨(us s 3000 j1), (uc c 34 (ua (c 34) (i).toNat (mi_nb ((mi_i2b (mi_xor (c 34 (i).toNat) y)))))), (mi_and (mi_nb (mi_i2b (mi_xor (c 34 (i).toNat) y))) 255), rfl, rfl, (bS_us hS (show 0 ≤ j1 ∧ j1 ≤ 2 by omega)), (bC_st hC (mi_nb_bd _)), (fr_us (by decide) fr_rf), (frc_uc (by decide) frc_rf), by omega, by show j1 = if 0 ≤ i ∧ i < s 3014 then (if 0 ≤ y ∧ y ≤ 255 then 0 else 2) else 1; (try split) <;> (try split) <;> omega, by show ((mi_and (mi_nb (mi_i2b (mi_xor (c 34 (i).toNat) y))) 255)) = if (0 ≤ i ∧ i < s 3014) ∧ 0 ≤ y ∧ y ≤ 255 then mi_and (nb (mi_xor (c 34 i.toNat) y)) 255 else 0; rw [if_pos (by omega)]; rfl, by show (ua (c 34) (i).toNat (mi_nb ((mi_i2b (mi_xor (c 34 (i).toNat) y))))) = if (0 ≤ i ∧ i < s 3014) ∧ 0 ≤ y ∧ y ≤ 255 then ua (c 34) i.toNat (nb (mi_xor (c 34 i.toNat) y)) else c 34; rw [if_pos (by omega)]; rfl⟩
    · show tt Zi d 183 (43, [some (.inr (.inl 30)), some (.inl i), some (.inl y)], [], n, D, (us s 3000 j1), p, c) _
      refine tt_k 1 (S' := (44, [some (.inr (.inl 30)), some (.inl i), some (.inl y)], [.inl 0], n, D, (us s 3000 j1), p, c)) rfl ?_
      exact tt_rti rfl rfl ⟨(us s 3000 j1), c, 0, rfl, rfl, (bS_us hS (show 0 ≤ j1 ∧ j1 ≤ 2 by omega)), hC, (fr_us (by decide) fr_rf), frc_rf, by omega, by show j1 = if 0 ≤ i ∧ i < s 3014 then (if 0 ≤ y ∧ y ≤ 255 then 0 else 2) else 1; (try split) <;> (try split) <;> omega, by show 0 = if (0 ≤ i ∧ i < s 3014) ∧ 0 ≤ y ∧ y ≤ 255 then mi_and (nb (mi_xor (c 34 i.toNat) y)) 255 else 0; rw [if_neg (by omega)], by show (c 34) = if (0 ≤ i ∧ i < s 3014) ∧ 0 ≤ y ∧ y ≤ 255 then ua (c 34) i.toNat (nb (mi_xor (c 34 i.toNat) y)) else c 34; rw [if_neg (by omega)]⟩
  refine tz_lt (x := i) rfl rfl (by omega) (fun h11 => ?_) (fun h11 => ?_)
  · show tt Zi d 183 (13, [some (.inr (.inl 30)), some (.inl i), some (.inl y)], [.inr (.inl 30)], n, D, s, p, c) _
    refine tt_k 2 (S' := (33, [some (.inr (.inl 30)), some (.inl i), some (.inl y)], [.inl 1, .inr (.inl 30)], n, D, s, p, c)) rfl ?_
    exact K2 1  (by omega) (Or.inl ⟨h11, rfl⟩)
  · show tt Zi d 183 (5, [some (.inr (.inl 30)), some (.inl i), some (.inl y)], [.inr (.inl 30)], n, D, s, p, c) _
    refine tt_k 3 (S' := (10, [some (.inr (.inl 30)), some (.inl i), some (.inl y)], [.inl (s 3014), .inl i, .inr (.inl 30)], n, D, s, p, c)) rfl ?_
    have b12 : 0 ≤ (s 3014) ∧ (s 3014) ≤ 32768 := hS 3014
    refine tb_lt (x := i) (y := (s 3014)) rfl rfl (by omega) (fun h13 => ?_) (fun h13 => ?_)
    · show tt Zi d 183 (17, [some (.inr (.inl 30)), some (.inl i), some (.inl y)], [.inr (.inl 30)], n, D, s, p, c) _
      refine tt_k 1 (S' := (18, [some (.inr (.inl 30)), some (.inl i), some (.inl y)], [.inl y, .inr (.inl 30)], n, D, s, p, c)) rfl ?_
      refine tz_lt (x := y) rfl rfl (by omega) (fun h14 => ?_) (fun h14 => ?_)
      · show tt Zi d 183 (28, [some (.inr (.inl 30)), some (.inl i), some (.inl y)], [.inr (.inl 30)], n, D, s, p, c) _
        refine tt_k 2 (S' := (33, [some (.inr (.inl 30)), some (.inl i), some (.inl y)], [.inl 2, .inr (.inl 30)], n, D, s, p, c)) rfl ?_
        exact K2 2  (by omega) (Or.inr (Or.inl ⟨h11, h13, h14, rfl⟩))
      · show tt Zi d 183 (21, [some (.inr (.inl 30)), some (.inl i), some (.inl y)], [.inr (.inl 30)], n, D, s, p, c) _
        refine tt_k 2 (S' := (25, [some (.inr (.inl 30)), some (.inl i), some (.inl y)], [.inl 255, .inl y, .inr (.inl 30)], n, D, s, p, c)) rfl ?_
        refine tb_le (x := y) (y := 255) rfl rfl (by omega) (fun h15 => ?_) (fun h15 => ?_)
        · show tt Zi d 183 (32, [some (.inr (.inl 30)), some (.inl i), some (.inl y)], [.inr (.inl 30)], n, D, s, p, c) _
          refine tt_k 1 (S' := (33, [some (.inr (.inl 30)), some (.inl i), some (.inl y)], [.inl 0, .inr (.inl 30)], n, D, s, p, c)) rfl ?_
          exact K2 0  (by omega) (Or.inr (Or.inr (Or.inl ⟨h11, h13, h14, h15, rfl⟩)))
        · show tt Zi d 183 (28, [some (.inr (.inl 30)), some (.inl i), some (.inl y)], [.inr (.inl 30)], n, D, s, p, c) _
          refine tt_k 2 (S' := (33, [some (.inr (.inl 30)), some (.inl i), some (.inl y)], [.inl 2, .inr (.inl 30)], n, D, s, p, c)) rfl ?_
          exact K2 2  (by omega) (Or.inr (Or.inr (Or.inr (Or.inl ⟨h11, h13, h14, h15, rfl⟩))))
    · show tt Zi d 183 (13, [some (.inr (.inl 30)), some (.inl i), some (.inl y)], [.inr (.inl 30)], n, D, s, p, c) _
      refine tt_k 2 (S' := (33, [some (.inr (.inl 30)), some (.inl i), some (.inl y)], [.inl 1, .inr (.inl 30)], n, D, s, p, c)) rfl ?_
      exact K2 1  (by omega) (Or.inr (Or.inr (Or.inr (Or.inr (⟨h11, h13, rfl⟩)))))
