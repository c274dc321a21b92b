/-! the reference reads sections; planes begin and are kept; neighbours -/
set_option maxRecDepth 100000 in
set_option maxHeartbeats 4000000 in
theorem k_beginPlane_L2 {Zi : Nat → Option (Nat × (Nat → Int))} {d n : Nat} {D : Nat → Nat × Nat} {s : Nat → Int} {p : Nat → Nat} {c : Nat → Nat → Int}  {Q : mi_Rs → mi_H → Prop} (hd : 1 ≤ d) (hS : bS s) (hC : bC D c) (hq0 : 1 ≤ s 3024 ∧ s 3024 ≤ 65536)
  (hK : ∀ (k : Int) (c0 : Nat → Nat → Int) (b_k : 0 ≤ k ∧ k ≤ 367) (hC0 : bC D c0) (hG0 : frc c c0 [36, 37, 38, 39]) (i0 : ∀ i : Nat, (i : Int) < k → c0 36 i = max 2 ((s 3024 + 32) / 64)) (i1 : ∀ i : Nat, (i : Int) < k → c0 37 i = 0) (i2 : ∀ i : Nat, (i : Int) < k → c0 38 i = 0) (i3 : ∀ i : Nat, (i : Int) < k → c0 39 i = 1), k = 367 → tt Zi d 151 (56, [some (.inr (.inl 30)), some (.inl k)], [], n, D, s, p, c0) Q) :
  ∀ (m : Nat) (k : Int) (c0 : Nat → Nat → Int) (b_k : 0 ≤ k ∧ k ≤ 367) (hC0 : bC D c0) (hG0 : frc c c0 [36, 37, 38, 39]) (i0 : ∀ i : Nat, (i : Int) < k → c0 36 i = max 2 ((s 3024 + 32) / 64)) (i1 : ∀ i : Nat, (i : Int) < k → c0 37 i = 0) (i2 : ∀ i : Nat, (i : Int) < k → c0 38 i = 0) (i3 : ∀ i : Nat, (i : Int) < k → c0 39 i = 1), (367 - k).toNat < m → tt Zi d 151 (2, [some (.inr (.inl 30)), some (.inl k)], [], n, D, s, p, c0) Q := by
  intro m
  induction m with
  | zero => intro k c0 b_k hC0 hG0 i0 i1 i2 i3 hm; exact absurd hm (by omega)
  | succ m ih =>
    intro k c0 b_k hC0 hG0 i0 i1 i2 i3 hm
    refine tt_k 2 (S' := (6, [some (.inr (.inl 30)), some (.inl k)], [.inl 367, .inl k], n, D, s, p, c0)) rfl ?_
    refine tb_ge (x := k) (y := 367) rfl rfl (by omega) (fun h1 => ?_) (fun h1 => ?_)
    · show tt Zi d 151 (56, [some (.inr (.inl 30)), some (.inl k)], [], n, D, s, p, c0) _
      exact hK k c0 (by omega) hC0 hG0 i0 i1 i2 i3 (by omega)
    · show tt Zi d 151 (9, [some (.inr (.inl 30)), some (.inl k)], [], n, D, s, p, c0) _
      refine tt_k 9 (S' := (24, [some (.inr (.inl 30)), some (.inl k)], [.inl 64, .inl ((s 3024) + 32), .inl 2, .inl k, .inr (.inl 36)], n, D, s, p, c0)) rfl ?_
      have b2 : -2147483648 ≤ (s 3024) ∧ (s 3024) ≤ 2147483647 := hS 3024
      refine tt_dvp (x := ((s 3024) + 32)) (y := 64) rfl (by omega) ?_
      show tt Zi d 151 (25, [some (.inr (.inl 30)), some (.inl k)], [.inl ((((s 3024) + 32) / 64)), .inl 2, .inl k, .inr (.inl 36)], n, D, s, p, c0) _
      refine tt_cl (by omega) rfl (k_more (Zi := Zi) (D := D) (s := s) (p := p) (c := c0) (by omega) hS hC0 2 ((((s 3024) + 32) / 64)) (by omega) (by omega)) ?_
      rintro _ _ ⟨r3, rfl, rfl, b4, k5⟩
      show tt Zi d 151 (28, [some (.inr (.inl 30)), some (.inl k)], [.inl r3, .inl k, .inr (.inl 36)], n, D, s, p, c0) _
      have k5 : r3 = max 2 ((((s 3024) + 32) / 64)) := k5
      subst k5
      show tt Zi d 151 (28, [some (.inr (.inl 30)), some (.inl k)], [.inl ((max 2 ((((s 3024) + 32) / 64)))), .inl k, .inr (.inl 36)], n, D, s, p, c0) _
      refine tt_ist (i := k) (x := (max 2 ((((s 3024) + 32) / 64)))) rfl rfl (by omega) ?_
      show tt Zi d 151 (29, [some (.inr (.inl 30)), some (.inl k)], [], n, D, s, p, (uc c0 36 (ua (c0 36) (k).toNat ((max 2 ((((s 3024) + 32) / 64))))))) _
      refine tt_k 4 (S' := (35, [some (.inr (.inl 30)), some (.inl k)], [.inl 0, .inl k, .inr (.inl 37)], n, D, s, p, (uc c0 36 (ua (c0 36) (k).toNat ((max 2 ((((s 3024) + 32) / 64)))))))) rfl ?_
      refine tt_ist (i := k) (x := 0) rfl rfl (by omega) ?_
      show tt Zi d 151 (36, [some (.inr (.inl 30)), some (.inl k)], [], n, D, s, p, (uc (uc c0 36 (ua (c0 36) (k).toNat ((max 2 ((((s 3024) + 32) / 64)))))) 37 (ua (c0 37) (k).toNat 0))) _
      refine tt_k 4 (S' := (42, [some (.inr (.inl 30)), some (.inl k)], [.inl 0, .inl k, .inr (.inl 38)], n, D, s, p, (uc (uc c0 36 (ua (c0 36) (k).toNat ((max 2 ((((s 3024) + 32) / 64)))))) 37 (ua (c0 37) (k).toNat 0)))) rfl ?_
      refine tt_ist (i := k) (x := 0) rfl rfl (by omega) ?_
      show tt Zi d 151 (43, [some (.inr (.inl 30)), some (.inl k)], [], n, D, s, p, (uc (uc (uc c0 36 (ua (c0 36) (k).toNat ((max 2 ((((s 3024) + 32) / 64)))))) 37 (ua (c0 37) (k).toNat 0)) 38 (ua (c0 38) (k).toNat 0))) _
      refine tt_k 4 (S' := (49, [some (.inr (.inl 30)), some (.inl k)], [.inl 1, .inl k, .inr (.inl 39)], n, D, s, p, (uc (uc (uc c0 36 (ua (c0 36) (k).toNat ((max 2 ((((s 3024) + 32) / 64)))))) 37 (ua (c0 37) (k).toNat 0)) 38 (ua (c0 38) (k).toNat 0)))) rfl ?_
      refine tt_ist (i := k) (x := 1) rfl rfl (by omega) ?_
      show tt Zi d 151 (50, [some (.inr (.inl 30)), some (.inl k)], [], n, D, s, p, (uc (uc (uc (uc c0 36 (ua (c0 36) (k).toNat ((max 2 ((((s 3024) + 32) / 64)))))) 37 (ua (c0 37) (k).toNat 0)) 38 (ua (c0 38) (k).toNat 0)) 39 (ua (c0 39) (k).toNat 1))) _
      refine tt_k 2 (S' := (2, [some (.inr (.inl 30)), some (.inl (k + 1))], [], n, D, s, p, (uc (uc (uc (uc c0 36 (ua (c0 36) (k).toNat ((max 2 ((((s 3024) + 32) / 64)))))) 37 (ua (c0 37) (k).toNat 0)) 38 (ua (c0 38) (k).toNat 0)) 39 (ua (c0 39) (k).toNat 1)))) rfl ?_
      exact ih (k + 1) (uc (uc (uc (uc c0 36 (ua (c0 36) (k).toNat ((max 2 ((((s 3024) + 32) / 64)))))) 37 (ua (c0 37) (k).toNat 0)) 38 (ua (c0 38) (k).toNat 0)) 39 (ua (c0 39) (k).toNat 1)) (by omega) (bC_st (bC_st (bC_st (bC_st hC0 (show -2147483648 ≤ (max 2 ((((s 3024) + 32) / 64))) ∧ (max 2 ((((s 3024) + 32) / 64))) ≤ 2147483647 by omega)) (show -2147483648 ≤ 0 ∧ 0 ≤ 2147483647 by omega)) (show -2147483648 ≤ 0 ∧ 0 ≤ 2147483647 by omega)) (show -2147483648 ≤ 1 ∧ 1 ≤ 2147483647 by omega)) (frc_uc (by decide) (frc_uc (by decide) (frc_uc (by decide) (frc_uc (by decide) hG0)))) (ua_all i0 (by omega)) (ua_all i1 (by omega)) (ua_all i2 (by omega)) (ua_all i3 (by omega)) (show (367 - (k + 1)).toNat < m by omega)
set_option maxRecDepth 100000 in
set_option maxHeartbeats 4000000 in
theorem k_beginPlane {Zi : Nat → Option (Nat × (Nat → Int))} {d n : Nat} {D : Nat → Nat × Nat} {s : Nat → Int} {p : Nat → Nat} {c : Nat → Nat → Int} (hd : 1 ≤ d) (hS : bS s) (hC : bC D c) (hp0 : 1 ≤ s 3024 ∧ s 3024 ≤ 65536) : tt Zi d 151 (0, [some (.inr (.inl 30)), none], [], n, D, s, p, c) (fun R H => ∃ (s' : Nat → Int) (c' : Nat → Nat → Int), R = .inl none ∧ H = (n, D, s', p, c') ∧ bS s' ∧ bC D c' ∧ fr s s' [3035] ∧ frc c c' [36, 37, 38, 39] ∧ (∀ i : Nat, (i : Int) < 367 → c' 36 i = max 2 ((s 3024 + 32) / 64)) ∧ (∀ i : Nat, (i : Int) < 367 → c' 37 i = 0) ∧ (∀ i : Nat, (i : Int) < 367 → c' 38 i = 0) ∧ (∀ i : Nat, (i : Int) < 367 → c' 39 i = 1) ∧ (s' 3035 = 0)) := by
  refine tt_k 2 (S' := (2, [some (.inr (.inl 30)), some (.inl 0)], [], n, D, s, p, c)) rfl ?_
  have b1 : -2147483648 ≤ (s 3024) ∧ (s 3024) ≤ 2147483647 := hS 3024
  refine k_beginPlane_L2 (Zi := Zi) (D := D) (s := s) (p := p) (c := c) hd hS hC   (show 1 ≤ (s 3024) ∧ (s 3024) ≤ 65536 by omega) ?_ _ 0 c (by omega) hC frc_rf (fun i hi => absurd hi (by omega)) (fun i hi => absurd hi (by omega)) (fun i hi => absurd hi (by omega)) (fun i hi => absurd hi (by omega)) (Nat.lt_succ_self _)
  intro x2 c3 b4 hC3 g5 i6 i7 i8 i9 hx10
  show tt Zi d 151 (56, [some (.inr (.inl 30)), some (.inl x2)], [], n, D, s, p, c3) _
  refine tt_k 3 (S' := (61, [some (.inr (.inl 30)), some (.inl x2)], [], n, D, (us s 3035 0), p, c3)) rfl ?_
  exact tt_rtv rfl rfl ⟨(us s 3035 0), c3, rfl, rfl, (bS_us hS (show 0 ≤ 0 ∧ 0 ≤ 31 by omega)), hC3, (fr_us (by decide) fr_rf), (frc_tr frc_rf g5 (by decide)), fun i hi => i6 i (by omega), fun i hi => i7 i (by omega), fun i hi => i8 i (by omega), fun i hi => i9 i (by omega), rfl⟩
set_option maxRecDepth 100000 in
set_option maxHeartbeats 4000000 in
theorem k_fill_L3 {Zi : Nat → Option (Nat × (Nat → Int))} {d n : Nat} {D : Nat → Nat × Nat} {s : Nat → Int} {p : Nat → Nat} {c : Nat → Nat → Int}  {Q : mi_Rs → mi_H → Prop} (hd : 0 ≤ d) (hS : bS s) (hC : bC D c) (x : Int) (y : Int) (n_ : Int) (v : Int) (b_x : 0 ≤ x ∧ x ≤ 64) (b_y : 0 ≤ y ∧ y ≤ 63) (b_n_ : 0 ≤ n_ ∧ n_ ≤ 64) (b_v : 0 ≤ v ∧ v ≤ 65535) (hq0 : x + n_ ≤ 64)
  (hK : ∀ (k : Int) (c0 : Nat → Nat → Int) (b_k : 0 ≤ k ∧ k ≤ 64) (hC0 : bC D c0) (hG0 : frc c c0 [44]) (i0 : k ≤ n_) (i1 : ∀ i : Nat, (i : Int) < s 3039 + 64 * y + x ∨ s 3039 + 64 * y + x + k ≤ i → c0 44 i = c 44 i) (i2 : ∀ i : Nat, s 3039 + 64 * y + x ≤ i → (i : Int) < s 3039 + 64 * y + x + k → c0 44 i = v), k = n_ → tt Zi d 157 (36, [some (.inr (.inl 30)), some (.inl x), some (.inl y), some (.inl n_), some (.inl v), some (.inl k)], [], n, D, s, p, c0) Q) :
  ∀ (m : Nat) (k : Int) (c0 : Nat → Nat → Int) (b_k : 0 ≤ k ∧ k ≤ 64) (hC0 : bC D c0) (hG0 : frc c c0 [44]) (i0 : k ≤ n_) (i1 : ∀ i : Nat, (i : Int) < s 3039 + 64 * y + x ∨ s 3039 + 64 * y + x + k ≤ i → c0 44 i = c 44 i) (i2 : ∀ i : Nat, s 3039 + 64 * y + x ≤ i → (i : Int) < s 3039 + 64 * y + x + k → c0 44 i = v), (n_ - k).toNat < m → tt Zi d 157 (3, [some (.inr (.inl 30)), some (.inl x), some (.inl y), some (.inl n_), some (.inl v), some (.inl k)], [], n, D, s, p, c0) Q := by
  intro m
  induction m with
  | zero => intro k c0 b_k hC0 hG0 i0 i1 i2 hm; exact absurd hm (by omega)
  | succ m ih =>
    intro k c0 b_k hC0 hG0 i0 i1 i2 hm
    refine tt_k 2 (S' := (6, [some (.inr (.inl 30)), some (.inl x), some (.inl y), some (.inl n_), some (.inl v), some (.inl k)], [.inl n_, .inl k], n, D, s, p, c0)) rfl ?_
    refine tb_ge (x := k) (y := n_) rfl rfl (by omega) (fun h1 => ?_) (fun h1 => ?_)
    · show tt Zi d 157 (36, [some (.inr (.inl 30)), some (.inl x), some (.inl y), some (.inl n_), some (.inl v), some (.inl k)], [], n, D, s, p, c0) _
      exact hK k c0 (by omega) hC0 hG0 i0 i1 i2 (by omega)
    · show tt Zi d 157 (9, [some (.inr (.inl 30)), some (.inl x), some (.inl y), some (.inl n_), some (.inl v), some (.inl k)], [], n, D, s, p, c0) _
      refine tt_k 13 (S' := (29, [some (.inr (.inl 30)), some (.inl x), some (.inl y), some (.inl n_), some (.inl v), some (.inl k)], [.inl v, .inl (((((s 3039) + (64 * y)) + x) + k)), .inr (.inl 44)], n, D, s, p, c0)) rfl ?_
      have b2 : 0 ≤ (s 3039) ∧ (s 3039) ≤ 8192 := hS 3039
      refine tt_ist (i := ((((s 3039) + (64 * y)) + x) + k)) (x := v) rfl rfl (by omega) ?_
      show tt Zi d 157 (30, [some (.inr (.inl 30)), some (.inl x), some (.inl y), some (.inl n_), some (.inl v), some (.inl k)], [], n, D, s, p, (uc c0 44 (ua (c0 44) (((((s 3039) + (64 * y)) + x) + k)).toNat v))) _
      refine tt_k 2 (S' := (3, [some (.inr (.inl 30)), some (.inl x), some (.inl y), some (.inl n_), some (.inl v), some (.inl (k + 1))], [], n, D, s, p, (uc c0 44 (ua (c0 44) (((((s 3039) + (64 * y)) + x) + k)).toNat v)))) rfl ?_
      exact ih (k + 1) (uc c0 44 (ua (c0 44) (((((s 3039) + (64 * y)) + x) + k)).toNat v)) (by omega) (bC_st hC0 (show 0 ≤ v ∧ v ≤ 65535 by omega)) (frc_uc (by decide) hG0) (show (k + 1) ≤ n_ by omega) (fun i hi => (ua_ne (by omega)).trans (i1 i (by omega))) (ua_seg i2 (by omega)) (show (n_ - (k + 1)).toNat < m by omega)
set_option maxRecDepth 100000 in
set_option maxHeartbeats 4000000 in
theorem k_fill {Zi : Nat → Option (Nat × (Nat → Int))} {d n : Nat} {D : Nat → Nat × Nat} {s : Nat → Int} {p : Nat → Nat} {c : Nat → Nat → Int} (hd : 0 ≤ d) (hS : bS s) (hC : bC D c) (x : Int) (y : Int) (n_ : Int) (v : Int) (b_x : 0 ≤ x ∧ x ≤ 64) (b_y : 0 ≤ y ∧ y ≤ 63) (b_n_ : 0 ≤ n_ ∧ n_ ≤ 64) (b_v : 0 ≤ v ∧ v ≤ 65535) (hp0 : x + n_ ≤ 64) : tt Zi d 157 (0, [some (.inr (.inl 30)), some (.inl x), some (.inl y), some (.inl n_), some (.inl v), none], [], n, D, s, p, c) (fun R H => ∃ (c' : Nat → Nat → Int), R = .inl none ∧ H = (n, D, s, p, c') ∧ bC D c' ∧ frc c c' [44] ∧ (∀ i : Nat, (i : Int) < s 3039 + 64 * y + x ∨ s 3039 + 64 * y + x + n_ ≤ i → c' 44 i = c 44 i) ∧ (∀ i : Nat, s 3039 + 64 * y + x ≤ i → (i : Int) < s 3039 + 64 * y + x + n_ → c' 44 i = v)) := by
  refine tt_k 2 (S' := (3, [some (.inr (.inl 30)), some (.inl x), some (.inl y), some (.inl n_), some (.inl v), some (.inl 0)], [], n, D, s, p, c)) rfl ?_
  refine k_fill_L3 (Zi := Zi) (D := D) (s := s) (p := p) (c := c) hd hS hC  x y n_ v (by omega) (by omega) (by omega) (by omega) (show x + n_ ≤ 64 by omega) ?_ _ 0 c (by omega) hC frc_rf (show 0 ≤ n_ by omega) (fun _ _ => rfl) (fun i h1 h2 => absurd h2 (by omega)) (Nat.lt_succ_self _)
  intro x1 c2 b3 hC2 g4 i5 i6 i7 hx8
  show tt Zi d 157 (36, [some (.inr (.inl 30)), some (.inl x), some (.inl y), some (.inl n_), some (.inl v), some (.inl x1)], [], n, D, s, p, c2) _
  exact tt_rtv rfl rfl ⟨c2, rfl, rfl, hC2, (frc_tr frc_rf g4 (by decide)), fun i hi => i6 i (by omega), fun i h1 h2 => i7 i h1 (by omega)⟩
set_option maxRecDepth 100000 in
set_option maxHeartbeats 4000000 in
theorem k_neighbours {Zi : Nat → Option (Nat × (Nat → Int))} {d n : Nat} {D : Nat → Nat × Nat} {s : Nat → Int} {p : Nat → Nat} {c : Nat → Nat → Int} (hd : 1 ≤ d) (hS : bS s) (hC : bC D c) (x : Int) (y : Int) (b_x : 0 ≤ x ∧ x ≤ 63) (b_y : 0 ≤ y ∧ y ≤ 63) (hp0 : x < s 3037) (hp1 : tb (s 3037) (s 3039) (s 3017) (c 44) x y) : tt Zi d 152 (0, [some (.inr (.inl 30)), some (.inl x), some (.inl y)], [], n, D, s, p, c) (fun R H => ∃ (s' : Nat → Int), R = .inl none ∧ H = (n, D, s', p, c) ∧ bS s' ∧ fr s s' [3041, 3042, 3043, 3044] ∧ ((0 ≤ s' 3041 ∧ s' 3041 ≤ s 3017) ∧ (0 ≤ s' 3042 ∧ s' 3042 ≤ s 3017) ∧ (0 ≤ s' 3043 ∧ s' 3043 ≤ s 3017) ∧ (0 ≤ s' 3044 ∧ s' 3044 ≤ s 3017))) := by
  have b1 : 0 ≤ (s 3017) ∧ (s 3017) ≤ 65535 := hS 3017
  refine tt_k 2 (S' := (2, [some (.inr (.inl 30)), some (.inl x), some (.inl y)], [.inl y, .inr (.inl 30)], n, D, s, p, c)) rfl ?_
  have K3 : ∀ (j2 : Int) , (0 ≤ j2 ∧ j2 ≤ 65535) → (0 ≤ j2 ∧ j2 ≤ s 3017) → ((y ≤ 0 ∧ j2 = 0) ∨ (0 < y ∧ j2 = ((c 44) ((s 3039) + 64 * (y - 1) + x).toNat))) → tt Zi d 152 (17, [some (.inr (.inl 30)), some (.inl x), some (.inl y)], [.inl j2, .inr (.inl 30)], n, D, s, p, c) (fun R H => ∃ (s' : Nat → Int), R = .inl none ∧ H = (n, D, s', p, c) ∧ bS s' ∧ fr s s' [3041, 3042, 3043, 3044] ∧ ((0 ≤ s' 3041 ∧ s' 3041 ≤ s 3017) ∧ (0 ≤ s' 3042 ∧ s' 3042 ≤ s 3017) ∧ (0 ≤ s' 3043 ∧ s' 3043 ≤ s 3017) ∧ (0 ≤ s' 3044 ∧ s' 3044 ≤ s 3017))) := by
    intro j2 b5 b6 hj4
    have b7 : 0 ≤ (s 3039) ∧ (s 3039) ≤ 8192 := hS 3039
    refine tt_k 3 (S' := (22, [some (.inr (.inl 30)), some (.inl x), some (.inl y)], [.inl x, .inr (.inl 30)], n, D, (us s 3042 j2), p, c)) rfl ?_
    have K9 : ∀ (j8 : Int) , (0 ≤ j8 ∧ j8 ≤ 65535) → (0 ≤ j8 ∧ j8 ≤ s 3017) → ((x ≤ 0 ∧ j8 = j2) ∨ (0 < x ∧ j8 = ((c 44) ((s 3039) + 64 * y + (x - 1)).toNat))) → tt Zi d 152 (40, [some (.inr (.inl 30)), some (.inl x), some (.inl y)], [.inl j8, .inr (.inl 30)], n, D, (us s 3042 j2), p, c) (fun R H => ∃ (s' : Nat → Int), R = .inl none ∧ H = (n, D, s', p, c) ∧ bS s' ∧ fr s s' [3041, 3042, 3043, 3044] ∧ ((0 ≤ s' 3041 ∧ s' 3041 ≤ s 3017) ∧ (0 ≤ s' 3042 ∧ s' 3042 ≤ s 3017) ∧ (0 ≤ s' 3043 ∧ s' 3043 ≤ s 3017) ∧ (0 ≤ s' 3044 ∧ s' 3044 ≤ s 3017))) := by
      intro j8 b11 b12 hj10
      refine tt_k 3 (S' := (45, [some (.inr (.inl 30)), some (.inl x), some (.inl y)], [.inl x, .inr (.inl 30)], n, D, (us (us s 3042 j2) 3041 j8), p, c)) rfl ?_
      have K14 : ∀ (j13 : Int) , (0 ≤ j13 ∧ j13 ≤ 65535) → (0 ≤ j13 ∧ j13 ≤ s 3017) → ((x ≤ 0 ∧ y ≤ 1 ∧ j13 = 0) ∨ (x ≤ 0 ∧ 1 < y ∧ j13 = ((c 44) ((s 3039) + 64 * (y - 2) + 0).toNat)) ∨ (0 < x ∧ y ≤ 0 ∧ j13 = 0) ∨ (0 < x ∧ 0 < y ∧ j13 = ((c 44) ((s 3039) + 64 * (y - 1) + (x - 1)).toNat))) → tt Zi d 152 (86, [some (.inr (.inl 30)), some (.inl x), some (.inl y)], [.inl j13, .inr (.inl 30)], n, D, (us (us s 3042 j2) 3041 j8), p, c) (fun R H => ∃ (s' : Nat → Int), R = .inl none ∧ H = (n, D, s', p, c) ∧ bS s' ∧ fr s s' [3041, 3042, 3043, 3044] ∧ ((0 ≤ s' 3041 ∧ s' 3041 ≤ s 3017) ∧ (0 ≤ s' 3042 ∧ s' 3042 ≤ s 3017) ∧ (0 ≤ s' 3043 ∧ s' 3043 ≤ s 3017) ∧ (0 ≤ s' 3044 ∧ s' 3044 ≤ s 3017))) := by
        intro j13 b16 b17 hj15
        refine tt_k 3 (S' := (91, [some (.inr (.inl 30)), some (.inl x), some (.inl y)], [.inl y, .inr (.inl 30)], n, D, (us (us (us s 3042 j2) 3041 j8) 3043 j13), p, c)) rfl ?_
        have K19 : ∀ (j18 : Int) , (0 ≤ j18 ∧ j18 ≤ 65535) → (0 ≤ j18 ∧ j18 ≤ s 3017) → ((y ≠ 0 ∧ (s 3037) ≤ (x + 1) ∧ j18 = j2) ∨ (y ≠ 0 ∧ (x + 1) < (s 3037) ∧ j18 = ((c 44) ((s 3039) + 64 * (y - 1) + (x + 1)).toNat)) ∨ (y = 0 ∧ j18 = 0)) → tt Zi d 152 (125, [some (.inr (.inl 30)), some (.inl x), some (.inl y)], [.inl j18, .inr (.inl 30)], n, D, (us (us (us s 3042 j2) 3041 j8) 3043 j13), p, c) (fun R H => ∃ (s' : Nat → Int), R = .inl none ∧ H = (n, D, s', p, c) ∧ bS s' ∧ fr s s' [3041, 3042, 3043, 3044] ∧ ((0 ≤ s' 3041 ∧ s' 3041 ≤ s 3017) ∧ (0 ≤ s' 3042 ∧ s' 3042 ≤ s 3017) ∧ (0 ≤ s' 3043 ∧ s' 3043 ≤ s 3017) ∧ (0 ≤ s' 3044 ∧ s' 3044 ≤ s 3017))) := by
          intro j18 b21 b22 hj20
          have b23 : 0 ≤ (s 3037) ∧ (s 3037) ≤ 64 := hS 3037
          refine tt_k 1 (S' := (128, [some (.inr (.inl 30)), some (.inl x), some (.inl y)], [], n, D, (us (us (us (us s 3042 j2) 3041 j8) 3043 j13) 3044 j18), p, c)) rfl ?_
          exact tt_rtv rfl rfl ⟨(us (us (us (us s 3042 j2) 3041 j8) 3043 j13) 3044 j18), rfl, rfl, (bS_us (bS_us (bS_us (bS_us hS (show 0 ≤ j2 ∧ j2 ≤ 65535 by omega)) (show 0 ≤ j8 ∧ j8 ≤ 65535 by omega)) (show 0 ≤ j13 ∧ j13 ≤ 65535 by omega)) (show 0 ≤ j18 ∧ j18 ≤ 65535 by omega)), (fr_us (by decide) (fr_us (by decide) (fr_us (by decide) (fr_us (by decide) fr_rf)))), by show (0 ≤ j8 ∧ j8 ≤ s 3017) ∧ (0 ≤ j2 ∧ j2 ≤ s 3017) ∧ (0 ≤ j13 ∧ j13 ≤ s 3017) ∧ (0 ≤ j18 ∧ j18 ≤ s 3017); omega⟩
        refine tz_ne (x := y) rfl rfl (by omega) (fun h24 => ?_) (fun h24 => ?_)
        · show tt Zi d 152 (98, [some (.inr (.inl 30)), some (.inl x), some (.inl y)], [.inr (.inl 30)], n, D, (us (us (us s 3042 j2) 3041 j8) 3043 j13), p, c) _
          refine tt_k 5 (S' := (105, [some (.inr (.inl 30)), some (.inl x), some (.inl y)], [.inl (s 3037), .inl (x + 1), .inr (.inl 30)], n, D, (us (us (us s 3042 j2) 3041 j8) 3043 j13), p, c)) rfl ?_
          have b25 : 0 ≤ (s 3037) ∧ (s 3037) ≤ 64 := hS 3037
          refine tb_ge (x := (x + 1)) (y := (s 3037)) rfl rfl (by omega) (fun h26 => ?_) (fun h26 => ?_)
          · show tt Zi d 152 (121, [some (.inr (.inl 30)), some (.inl x), some (.inl y)], [.inr (.inl 30)], n, D, (us (us (us s 3042 j2) 3041 j8) 3043 j13), p, c) _
            refine tt_k 2 (S' := (125, [some (.inr (.inl 30)), some (.inl x), some (.inl y)], [.inl j2, .inr (.inl 30)], n, D, (us (us (us s 3042 j2) 3041 j8) 3043 j13), p, c)) rfl ?_
            exact K19 j2  (by omega) (by omega) (Or.inl ⟨h24, h26, rfl⟩)
          · show tt Zi d 152 (108, [some (.inr (.inl 30)), some (.inl x), some (.inl y)], [.inr (.inl 30)], n, D, (us (us (us s 3042 j2) 3041 j8) 3043 j13), p, c) _
            refine tt_k 7 (S' := (115, [some (.inr (.inl 30)), some (.inl x), some (.inl y)], [.inl (y - 1), .inl (x + 1), .inr (.inl 30), .inr (.inl 30)], n, D, (us (us (us s 3042 j2) 3041 j8) 3043 j13), p, c)) rfl ?_
            refine tt_cl (by omega) rfl (k_told (Zi := Zi) (D := D) (s := (us (us (us s 3042 j2) 3041 j8) 3043 j13)) (p := p) (c := c) (by omega) (bS_us (bS_us (bS_us hS (show 0 ≤ j2 ∧ j2 ≤ 65535 by omega)) (show 0 ≤ j8 ∧ j8 ≤ 65535 by omega)) (show 0 ≤ j13 ∧ j13 ≤ 65535 by omega)) hC (x + 1) (y - 1) (by omega) (by omega)) ?_
            rintro _ _ ⟨r27, rfl, rfl, b28, k29⟩
            show tt Zi d 152 (118, [some (.inr (.inl 30)), some (.inl x), some (.inl y)], [.inl r27, .inr (.inl 30)], n, D, (us (us (us s 3042 j2) 3041 j8) 3043 j13), p, c) _
            have k29 : r27 = (c 44) ((s 3039) + 64 * (y - 1) + (x + 1)).toNat := k29
            subst k29
            show tt Zi d 152 (118, [some (.inr (.inl 30)), some (.inl x), some (.inl y)], [.inl (((c 44) ((s 3039) + 64 * (y - 1) + (x + 1)).toNat)), .inr (.inl 30)], n, D, (us (us (us s 3042 j2) 3041 j8) 3043 j13), p, c) _
            have tb30 := hp1 (x + 1) (y - 1) (by omega) (by omega) (by omega) (by omega)
            refine tt_k 1 (S' := (125, [some (.inr (.inl 30)), some (.inl x), some (.inl y)], [.inl (((c 44) ((s 3039) + 64 * (y - 1) + (x + 1)).toNat)), .inr (.inl 30)], n, D, (us (us (us s 3042 j2) 3041 j8) 3043 j13), p, c)) rfl ?_
            exact K19 (((c 44) ((s 3039) + 64 * (y - 1) + (x + 1)).toNat))  (by omega) (by omega) (Or.inr (Or.inl ⟨h24, h26, rfl⟩))
        · show tt Zi d 152 (94, [some (.inr (.inl 30)), some (.inl x), some (.inl y)], [.inr (.inl 30)], n, D, (us (us (us s 3042 j2) 3041 j8) 3043 j13), p, c) _
          refine tt_k 2 (S' := (125, [some (.inr (.inl 30)), some (.inl x), some (.inl y)], [.inl 0, .inr (.inl 30)], n, D, (us (us (us s 3042 j2) 3041 j8) 3043 j13), p, c)) rfl ?_
          exact K19 0  (by omega) (by omega) (Or.inr (Or.inr (⟨h24, rfl⟩)))
      refine tz_le (x := x) rfl rfl (by omega) (fun h31 => ?_) (fun h31 => ?_)
      · show tt Zi d 152 (69, [some (.inr (.inl 30)), some (.inl x), some (.inl y)], [.inr (.inl 30)], n, D, (us (us s 3042 j2) 3041 j8), p, c) _
        refine tt_k 2 (S' := (71, [some (.inr (.inl 30)), some (.inl x), some (.inl y)], [.inl 1, .inl y, .inr (.inl 30)], n, D, (us (us s 3042 j2) 3041 j8), p, c)) rfl ?_
        refine tb_le (x := y) (y := 1) rfl rfl (by omega) (fun h32 => ?_) (fun h32 => ?_)
        · show tt Zi d 152 (85, [some (.inr (.inl 30)), some (.inl x), some (.inl y)], [.inr (.inl 30)], n, D, (us (us s 3042 j2) 3041 j8), p, c) _
          refine tt_k 1 (S' := (86, [some (.inr (.inl 30)), some (.inl x), some (.inl y)], [.inl 0, .inr (.inl 30)], n, D, (us (us s 3042 j2) 3041 j8), p, c)) rfl ?_
          exact K14 0  (by omega) (by omega) (Or.inl ⟨h31, h32, rfl⟩)
        · show tt Zi d 152 (74, [some (.inr (.inl 30)), some (.inl x), some (.inl y)], [.inr (.inl 30)], n, D, (us (us s 3042 j2) 3041 j8), p, c) _
          refine tt_k 5 (S' := (79, [some (.inr (.inl 30)), some (.inl x), some (.inl y)], [.inl (y - 2), .inl 0, .inr (.inl 30), .inr (.inl 30)], n, D, (us (us s 3042 j2) 3041 j8), p, c)) rfl ?_
          refine tt_cl (by omega) rfl (k_told (Zi := Zi) (D := D) (s := (us (us s 3042 j2) 3041 j8)) (p := p) (c := c) (by omega) (bS_us (bS_us hS (show 0 ≤ j2 ∧ j2 ≤ 65535 by omega)) (show 0 ≤ j8 ∧ j8 ≤ 65535 by omega)) hC 0 (y - 2) (by omega) (by omega)) ?_
          rintro _ _ ⟨r33, rfl, rfl, b34, k35⟩
          show tt Zi d 152 (82, [some (.inr (.inl 30)), some (.inl x), some (.inl y)], [.inl r33, .inr (.inl 30)], n, D, (us (us s 3042 j2) 3041 j8), p, c) _
          have k35 : r33 = (c 44) ((s 3039) + 64 * (y - 2) + 0).toNat := k35
          subst k35
          show tt Zi d 152 (82, [some (.inr (.inl 30)), some (.inl x), some (.inl y)], [.inl (((c 44) ((s 3039) + 64 * (y - 2) + 0).toNat)), .inr (.inl 30)], n, D, (us (us s 3042 j2) 3041 j8), p, c) _
          have tb36 := hp1 0 (y - 2) (by omega) (by omega) (by omega) (by omega)
          refine tt_k 1 (S' := (86, [some (.inr (.inl 30)), some (.inl x), some (.inl y)], [.inl (((c 44) ((s 3039) + 64 * (y - 2) + 0).toNat)), .inr (.inl 30)], n, D, (us (us s 3042 j2) 3041 j8), p, c)) rfl ?_
          exact K14 (((c 44) ((s 3039) + 64 * (y - 2) + 0).toNat))  (by omega) (by omega) (Or.inr (Or.inl ⟨h31, h32, rfl⟩))
      · show tt Zi d 152 (48, [some (.inr (.inl 30)), some (.inl x), some (.inl y)], [.inr (.inl 30)], n, D, (us (us s 3042 j2) 3041 j8), p, c) _
        refine tt_k 1 (S' := (49, [some (.inr (.inl 30)), some (.inl x), some (.inl y)], [.inl y, .inr (.inl 30)], n, D, (us (us s 3042 j2) 3041 j8), p, c)) rfl ?_
        refine tz_le (x := y) rfl rfl (by omega) (fun h37 => ?_) (fun h37 => ?_)
        · show tt Zi d 152 (65, [some (.inr (.inl 30)), some (.inl x), some (.inl y)], [.inr (.inl 30)], n, D, (us (us s 3042 j2) 3041 j8), p, c) _
          refine tt_k 2 (S' := (86, [some (.inr (.inl 30)), some (.inl x), some (.inl y)], [.inl 0, .inr (.inl 30)], n, D, (us (us s 3042 j2) 3041 j8), p, c)) rfl ?_
          exact K14 0  (by omega) (by omega) (Or.inr (Or.inr (Or.inl ⟨h31, h37, rfl⟩)))
        · show tt Zi d 152 (52, [some (.inr (.inl 30)), some (.inl x), some (.inl y)], [.inr (.inl 30)], n, D, (us (us s 3042 j2) 3041 j8), p, c) _
          refine tt_k 7 (S' := (59, [some (.inr (.inl 30)), some (.inl x), some (.inl y)], [.inl (y - 1), .inl (x - 1), .inr (.inl 30), .inr (.inl 30)], n, D, (us (us s 3042 j2) 3041 j8), p, c)) rfl ?_
          refine tt_cl (by omega) rfl (k_told (Zi := Zi) (D := D) (s := (us (us s 3042 j2) 3041 j8)) (p := p) (c := c) (by omega) (bS_us (bS_us hS (show 0 ≤ j2 ∧ j2 ≤ 65535 by omega)) (show 0 ≤ j8 ∧ j8 ≤ 65535 by omega)) hC (x - 1) (y - 1) (by omega) (by omega)) ?_
          rintro _ _ ⟨r38, rfl, rfl, b39, k40⟩
          show tt Zi d 152 (62, [some (.inr (.inl 30)), some (.inl x), some (.inl y)], [.inl r38, .inr (.inl 30)], n, D, (us (us s 3042 j2) 3041 j8), p, c) _
          have k40 : r38 = (c 44) ((s 3039) + 64 * (y - 1) + (x - 1)).toNat := k40
          subst k40
          show tt Zi d 152 (62, [some (.inr (.inl 30)), some (.inl x), some (.inl y)], [.inl (((c 44) ((s 3039) + 64 * (y - 1) + (x - 1)).toNat)), .inr (.inl 30)], n, D, (us (us s 3042 j2) 3041 j8), p, c) _
          have tb41 := hp1 (x - 1) (y - 1) (by omega) (by omega) (by omega) (by omega)
          refine tt_k 1 (S' := (86, [some (.inr (.inl 30)), some (.inl x), some (.inl y)], [.inl (((c 44) ((s 3039) + 64 * (y - 1) + (x - 1)).toNat)), .inr (.inl 30)], n, D, (us (us s 3042 j2) 3041 j8), p, c)) rfl ?_
          exact K14 (((c 44) ((s 3039) + 64 * (y - 1) + (x - 1)).toNat))  (by omega) (by omega) (Or.inr (Or.inr (Or.inr (⟨h31, h37, rfl⟩))))
    refine tz_le (x := x) rfl rfl (by omega) (fun h42 => ?_) (fun h42 => ?_)
    · show tt Zi d 152 (36, [some (.inr (.inl 30)), some (.inl x), some (.inl y)], [.inr (.inl 30)], n, D, (us s 3042 j2), p, c) _
      refine tt_k 2 (S' := (40, [some (.inr (.inl 30)), some (.inl x), some (.inl y)], [.inl j2, .inr (.inl 30)], n, D, (us s 3042 j2), p, c)) rfl ?_
      exact K9 j2  (by omega) (by omega) (Or.inl ⟨h42, rfl⟩)
    · show tt Zi d 152 (25, [some (.inr (.inl 30)), some (.inl x), some (.inl y)], [.inr (.inl 30)], n, D, (us s 3042 j2), p, c) _
      refine tt_k 5 (S' := (30, [some (.inr (.inl 30)), some (.inl x), some (.inl y)], [.inl y, .inl (x - 1), .inr (.inl 30), .inr (.inl 30)], n, D, (us s 3042 j2), p, c)) rfl ?_
      refine tt_cl (by omega) rfl (k_told (Zi := Zi) (D := D) (s := (us s 3042 j2)) (p := p) (c := c) (by omega) (bS_us hS (show 0 ≤ j2 ∧ j2 ≤ 65535 by omega)) hC (x - 1) y (by omega) (by omega)) ?_
      rintro _ _ ⟨r43, rfl, rfl, b44, k45⟩
      show tt Zi d 152 (33, [some (.inr (.inl 30)), some (.inl x), some (.inl y)], [.inl r43, .inr (.inl 30)], n, D, (us s 3042 j2), p, c) _
      have k45 : r43 = (c 44) ((s 3039) + 64 * y + (x - 1)).toNat := k45
      subst k45
      show tt Zi d 152 (33, [some (.inr (.inl 30)), some (.inl x), some (.inl y)], [.inl (((c 44) ((s 3039) + 64 * y + (x - 1)).toNat)), .inr (.inl 30)], n, D, (us s 3042 j2), p, c) _
      have tb46 := hp1 (x - 1) y (by omega) (by omega) (by omega) (by omega)
      refine tt_k 1 (S' := (40, [some (.inr (.inl 30)), some (.inl x), some (.inl y)], [.inl (((c 44) ((s 3039) + 64 * y + (x - 1)).toNat)), .inr (.inl 30)], n, D, (us s 3042 j2), p, c)) rfl ?_
      exact K9 (((c 44) ((s 3039) + 64 * y + (x - 1)).toNat))  (by omega) (by omega) (Or.inr (⟨h42, rfl⟩))
  refine tz_le (x := y) rfl rfl (by omega) (fun h47 => ?_) (fun h47 => ?_)
  · show tt Zi d 152 (16, [some (.inr (.inl 30)), some (.inl x), some (.inl y)], [.inr (.inl 30)], n, D, s, p, c) _
    refine tt_k 1 (S' := (17, [some (.inr (.inl 30)), some (.inl x), some (.inl y)], [.inl 0, .inr (.inl 30)], n, D, s, p, c)) rfl ?_
    exact K3 0  (by omega) (by omega) (Or.inl ⟨h47, rfl⟩)
  · show tt Zi d 152 (5, [some (.inr (.inl 30)), some (.inl x), some (.inl y)], [.inr (.inl 30)], n, D, s, p, c) _
    refine tt_k 5 (S' := (10, [some (.inr (.inl 30)), some (.inl x), some (.inl y)], [.inl (y - 1), .inl x, .inr (.inl 30), .inr (.inl 30)], n, D, s, p, c)) rfl ?_
    refine tt_cl (by omega) rfl (k_told (Zi := Zi) (D := D) (s := s) (p := p) (c := c) (by omega) hS hC x (y - 1) (by omega) (by omega)) ?_
    rintro _ _ ⟨r48, rfl, rfl, b49, k50⟩
    show tt Zi d 152 (13, [some (.inr (.inl 30)), some (.inl x), some (.inl y)], [.inl r48, .inr (.inl 30)], n, D, s, p, c) _
    have k50 : r48 = (c 44) ((s 3039) + 64 * (y - 1) + x).toNat := k50
    subst k50
    show tt Zi d 152 (13, [some (.inr (.inl 30)), some (.inl x), some (.inl y)], [.inl (((c 44) ((s 3039) + 64 * (y - 1) + x).toNat)), .inr (.inl 30)], n, D, s, p, c) _
    have b51 : 0 ≤ (s 3039) ∧ (s 3039) ≤ 8192 := hS 3039
    have tb52 := hp1 x (y - 1) (by omega) (by omega) (by omega) (by omega)
    refine tt_k 1 (S' := (17, [some (.inr (.inl 30)), some (.inl x), some (.inl y)], [.inl (((c 44) ((s 3039) + 64 * (y - 1) + x).toNat)), .inr (.inl 30)], n, D, s, p, c)) rfl ?_
    exact K3 (((c 44) ((s 3039) + 64 * (y - 1) + x).toNat))  (by omega) (by omega) (Or.inr (⟨h47, rfl⟩))
