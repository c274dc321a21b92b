/-! the reference's measures of a scan -/
set_option maxRecDepth 100000 in
set_option maxHeartbeats 4000000 in
theorem k_measCR_L329 {Zi : Nat → Option (Nat × (Nat → Int))} {d n : Nat} {D : Nat → Nat × Nat} {s : Nat → Int} {p : Nat → Nat} {c : Nat → Nat → Int} {o_1 : Option mi_V} {o_2 : Option mi_V} {o_3 : Option mi_V} {o_4 : Option mi_V} {o_5 : Option mi_V} {o_6 : Option mi_V} {Q : mi_Rs → mi_H → Prop} (hd : 2 ≤ d) (hS : bS s) (hC : bC D c) (hq0 : s 3024 ≤ 65537)
  (hK : ∀ (s0 : Nat → Int) (hS0 : bS s0) (hF0 : fr s s0 [3025]) (i0 : s0 3025 = 0 ∨ 2 ^ (s0 3025 - 1).toNat < s 3024) (i1 : 0 ≤ s0 3025 ∧ s0 3025 ≤ 17), s 3024 ≤ 2 ^ (s0 3025).toNat → tt Zi d 143 (355, [some (.inr (.inl 30)), o_1, o_2, o_3, o_4, o_5, o_6], [], n, D, s0, p, c) Q) :
  ∀ (m : Nat) (s0 : Nat → Int) (hS0 : bS s0) (hF0 : fr s s0 [3025]) (i0 : s0 3025 = 0 ∨ 2 ^ (s0 3025 - 1).toNat < s 3024) (i1 : 0 ≤ s0 3025 ∧ s0 3025 ≤ 17), (18 - s0 3025).toNat < m → tt Zi d 143 (329, [some (.inr (.inl 30)), o_1, o_2, o_3, o_4, o_5, o_6], [], n, D, s0, p, c) Q := by
  intro m
  induction m with
  | zero => intro s0 hS0 hF0 i0 i1 hm; exact absurd hm (by omega)
  | succ m ih =>
    intro s0 hS0 hF0 i0 i1 hm
    have e1 : s0 3017 = s 3017 := hF0 3017 (by decide)
    have b2 : 0 ≤ (s0 3017) ∧ (s0 3017) ≤ 65535 := hS0 3017
    have b3 : 0 ≤ (s 3017) ∧ (s 3017) ≤ 65535 := hS 3017
    have e4 : s0 3018 = s 3018 := hF0 3018 (by decide)
    have b5 : -2147483648 ≤ (s0 3018) ∧ (s0 3018) ≤ 2147483647 := hS0 3018
    have b6 : -2147483648 ≤ (s 3018) ∧ (s 3018) ≤ 2147483647 := hS 3018
    have e7 : s0 3019 = s 3019 := hF0 3019 (by decide)
    have b8 : -2147483648 ≤ (s0 3019) ∧ (s0 3019) ≤ 2147483647 := hS0 3019
    have b9 : -2147483648 ≤ (s 3019) ∧ (s 3019) ≤ 2147483647 := hS 3019
    have e10 : s0 3020 = s 3020 := hF0 3020 (by decide)
    have b11 : -2147483648 ≤ (s0 3020) ∧ (s0 3020) ≤ 2147483647 := hS0 3020
    have b12 : -2147483648 ≤ (s 3020) ∧ (s 3020) ≤ 2147483647 := hS 3020
    have e13 : s0 3021 = s 3021 := hF0 3021 (by decide)
    have b14 : -2147483648 ≤ (s0 3021) ∧ (s0 3021) ≤ 2147483647 := hS0 3021
    have b15 : -2147483648 ≤ (s 3021) ∧ (s 3021) ≤ 2147483647 := hS 3021
    have e16 : s0 3022 = s 3022 := hF0 3022 (by decide)
    have b17 : 0 ≤ (s0 3022) ∧ (s0 3022) ≤ 65535 := hS0 3022
    have b18 : 0 ≤ (s 3022) ∧ (s 3022) ≤ 65535 := hS 3022
    have e19 : s0 3023 = s 3023 := hF0 3023 (by decide)
    have b20 : -2147483648 ≤ (s0 3023) ∧ (s0 3023) ≤ 2147483647 := hS0 3023
    have b21 : -2147483648 ≤ (s 3023) ∧ (s 3023) ≤ 2147483647 := hS 3023
    have e22 : s0 3024 = s 3024 := hF0 3024 (by decide)
    have b23 : -2147483648 ≤ (s0 3024) ∧ (s0 3024) ≤ 2147483647 := hS0 3024
    have b24 : -2147483648 ≤ (s 3024) ∧ (s 3024) ≤ 2147483647 := hS 3024
    refine tt_k 6 (S' := (339, [some (.inr (.inl 30)), o_1, o_2, o_3, o_4, o_5, o_6], [.inl (s0 3024), .inl (mi_shl 1 (s0 3025))], n, D, s0, p, c)) rfl ?_
    have b25 : 0 ≤ (s0 3025) ∧ (s0 3025) ≤ 31 := hS0 3025
    have e26 : 1 ≤ (mi_shl 1 (s0 3025)) ∧ (mi_shl 1 (s0 3025)) ≤ 131072 := mi_shl1b 0 17 (by omega) (by omega) (by decide)
    refine tb_ge (x := (mi_shl 1 (s0 3025))) (y := (s0 3024)) rfl rfl (by omega) (fun h27 => ?_) (fun h27 => ?_)
    · show tt Zi d 143 (355, [some (.inr (.inl 30)), o_1, o_2, o_3, o_4, o_5, o_6], [], n, D, s0, p, c) _
      exact hK s0 hS0 hF0 i0 i1 (by have hsh := mi_shl1i (k := s0 3025) (by omega) (by omega); omega)
    · show tt Zi d 143 (342, [some (.inr (.inl 30)), o_1, o_2, o_3, o_4, o_5, o_6], [], n, D, s0, p, c) _
      refine tt_k 7 (S' := (329, [some (.inr (.inl 30)), o_1, o_2, o_3, o_4, o_5, o_6], [], n, D, (us s0 3025 ((s0 3025) + 1)), p, c)) rfl ?_
      have hsh := mi_shl1i (k := s0 3025) (by omega) (by omega)
      have hq16 := pw_17 (q := s0 3025) (by omega) (by omega)
      exact ih  (us s0 3025 ((s0 3025) + 1)) (bS_us hS0 (show 0 ≤ ((s0 3025) + 1) ∧ ((s0 3025) + 1) ≤ 31 by omega)) (fr_us (by decide) hF0) (Or.inr (by show 2 ^ (s0 3025 + 1 - 1).toNat < _; rw [Int.add_sub_cancel]; omega)) (show 0 ≤ ((s0 3025) + 1) ∧ ((s0 3025) + 1) ≤ 17 by omega) (show (18 - ((s0 3025) + 1)).toNat < m by omega)

set_option maxRecDepth 100000 in
set_option maxHeartbeats 4000000 in
theorem k_measCR_L358 {Zi : Nat → Option (Nat × (Nat → Int))} {d n : Nat} {D : Nat → Nat × Nat} {s : Nat → Int} {p : Nat → Nat} {c : Nat → Nat → Int} {o_1 : Option mi_V} {o_2 : Option mi_V} {o_3 : Option mi_V} {o_4 : Option mi_V} {o_6 : Option mi_V} {Q : mi_Rs → mi_H → Prop} (hd : 2 ≤ d) (hS : bS s) (hC : bC D c) (hq0 : s 3017 ≤ 65535)
  (hK : ∀ (b : Int) (b_b : 2 ≤ b ∧ b ≤ 16), s 3017 < 2 ^ b.toNat → tt Zi d 143 (375, [some (.inr (.inl 30)), o_1, o_2, o_3, o_4, some (.inl b), o_6], [], n, D, s, p, c) Q) :
  ∀ (m : Nat) (b : Int) (b_b : 2 ≤ b ∧ b ≤ 16), (16 - b).toNat < m → tt Zi d 143 (358, [some (.inr (.inl 30)), o_1, o_2, o_3, o_4, some (.inl b), o_6], [], n, D, s, p, c) Q := by
  intro m
  induction m with
  | zero => intro b b_b hm; exact absurd hm (by omega)
  | succ m ih =>
    intro b b_b hm
    refine tt_k 5 (S' := (366, [some (.inr (.inl 30)), o_1, o_2, o_3, o_4, some (.inl b), o_6], [.inl (s 3017), .inl (mi_shl 1 b)], n, D, s, p, c)) rfl ?_
    have e1 : 4 ≤ (mi_shl 1 b) ∧ (mi_shl 1 b) ≤ 65536 := mi_shl1b 2 16 (by omega) (by omega) (by decide)
    have b2 : 0 ≤ (s 3017) ∧ (s 3017) ≤ 65535 := hS 3017
    refine tb_gt (x := (mi_shl 1 b)) (y := (s 3017)) rfl rfl (by omega) (fun h3 => ?_) (fun h3 => ?_)
    · show tt Zi d 143 (375, [some (.inr (.inl 30)), o_1, o_2, o_3, o_4, some (.inl b), o_6], [], n, D, s, p, c) _
      exact hK b (by omega) (by have hsh := mi_shl1i (k := b) (by omega) (by omega); omega)
    · show tt Zi d 143 (369, [some (.inr (.inl 30)), o_1, o_2, o_3, o_4, some (.inl b), o_6], [], n, D, s, p, c) _
      refine tt_k 2 (S' := (358, [some (.inr (.inl 30)), o_1, o_2, o_3, o_4, some (.inl (b + 1)), o_6], [], n, D, s, p, c)) rfl ?_
      have hsh := mi_shl1i (k := b) (by omega) (by omega)
      have hb16 := pw_17 (q := b) (by omega) (by omega)
      have hb15 : b ≤ 15 := by have e : b = 16 → (2 : Int) ^ b.toNat = 65536 := (by intro hq; rw [hq]; decide); omega
      exact ih (b + 1)  (by omega) (show (16 - (b + 1)).toNat < m by omega)
set_option maxRecDepth 100000 in
set_option maxHeartbeats 4000000 in
theorem k_measCR {Zi : Nat → Option (Nat × (Nat → Int))} {d n : Nat} {D : Nat → Nat × Nat} {s : Nat → Int} {p : Nat → Nat} {c : Nat → Nat → Int} (hd : 2 ≤ d) (hS : bS s) (hC : bC D c) (bits : Int) (nr : Int) (top : Int) (f_ : Int) (b_bits : 2 ≤ bits ∧ bits ≤ 16) (b_nr : -2147483648 ≤ nr ∧ nr ≤ 2147483647) (b_top : 3 ≤ top ∧ top ≤ 65535) (hp0 : s 3018 = nr) : tt Zi d 143 (204, [some (.inr (.inl 30)), some (.inr (.inl 46)), some (.inl bits), some (.inl nr), some (.inl top), some (.inl f_), none], [], n, D, s, p, c) (fun R H => ∃ (s' : Nat → Int) (r : Int), R = .inl (some (.inl r)) ∧ H = (n, D, s', p, c) ∧ bS s' ∧ fr s s' [3017, 3018, 3019, 3020, 3021, 3022, 3023, 3024, 3025, 3026] ∧ (0 ≤ r ∧ r ≤ 1) ∧ (r = 1 → mv s')) := by
  refine tt_k 3 (S' := (207, [some (.inr (.inl 30)), some (.inr (.inl 46)), some (.inl bits), some (.inl nr), some (.inl top), some (.inl f_), none], [.inl 1, .inr (.inl 46), .inr (.inl 30)], n, D, s, p, c)) rfl ?_
  refine tt_ildv (i := 1) (v := (c 46 (1 : Int).toNat)) rfl rfl (by omega) rfl ?_
  show tt Zi d 143 (208, [some (.inr (.inl 30)), some (.inr (.inl 46)), some (.inl bits), some (.inl nr), some (.inl top), some (.inl f_), none], [.inl (c 46 (1 : Int).toNat), .inr (.inl 30)], n, D, s, p, c) _
  have b1 : 0 ≤ (c 46 (1 : Int).toNat) ∧ (c 46 (1 : Int).toNat) ≤ 65535 := hC 46 _
  have K3 : ∀ (j2 : Int) , (-2147483648 ≤ j2 ∧ j2 ≤ 2147483647) → (True) → tt Zi d 143 (231, [some (.inr (.inl 30)), some (.inr (.inl 46)), some (.inl bits), some (.inl nr), some (.inl top), some (.inl f_), none], [.inl j2, .inr (.inl 30)], n, D, s, p, c) (fun R H => ∃ (s' : Nat → Int) (r : Int), R = .inl (some (.inl r)) ∧ H = (n, D, s', p, c) ∧ bS s' ∧ fr s s' [3017, 3018, 3019, 3020, 3021, 3022, 3023, 3024, 3025, 3026] ∧ (0 ≤ r ∧ r ≤ 1) ∧ (r = 1 → mv s')) := by
    intro j2 b5 hj4
    refine tt_k 4 (S' := (237, [some (.inr (.inl 30)), some (.inr (.inl 46)), some (.inl bits), some (.inl nr), some (.inl top), some (.inl f_), none], [.inl 2, .inr (.inl 46), .inr (.inl 30)], n, D, (us s 3019 j2), p, c)) rfl ?_
    refine tt_ildv (i := 2) (v := (c 46 (2 : Int).toNat)) rfl rfl (by omega) rfl ?_
    show tt Zi d 143 (238, [some (.inr (.inl 30)), some (.inr (.inl 46)), some (.inl bits), some (.inl nr), some (.inl top), some (.inl f_), none], [.inl (c 46 (2 : Int).toNat), .inr (.inl 30)], n, D, (us s 3019 j2), p, c) _
    have b6 : 0 ≤ (c 46 (2 : Int).toNat) ∧ (c 46 (2 : Int).toNat) ≤ 65535 := hC 46 _
    have K8 : ∀ (j7 : Int) , (-2147483648 ≤ j7 ∧ j7 ≤ 2147483647) → (True) → tt Zi d 143 (259, [some (.inr (.inl 30)), some (.inr (.inl 46)), some (.inl bits), some (.inl nr), some (.inl top), some (.inl f_), none], [.inl j7, .inr (.inl 30)], n, D, (us s 3019 j2), p, c) (fun R H => ∃ (s' : Nat → Int) (r : Int), R = .inl (some (.inl r)) ∧ H = (n, D, s', p, c) ∧ bS s' ∧ fr s s' [3017, 3018, 3019, 3020, 3021, 3022, 3023, 3024, 3025, 3026] ∧ (0 ≤ r ∧ r ≤ 1) ∧ (r = 1 → mv s')) := by
      intro j7 b10 hj9
      refine tt_k 4 (S' := (265, [some (.inr (.inl 30)), some (.inr (.inl 46)), some (.inl bits), some (.inl nr), some (.inl top), some (.inl f_), none], [.inl 3, .inr (.inl 46), .inr (.inl 30)], n, D, (us (us s 3019 j2) 3020 j7), p, c)) rfl ?_
      refine tt_ildv (i := 3) (v := (c 46 (3 : Int).toNat)) rfl rfl (by omega) rfl ?_
      show tt Zi d 143 (266, [some (.inr (.inl 30)), some (.inr (.inl 46)), some (.inl bits), some (.inl nr), some (.inl top), some (.inl f_), none], [.inl (c 46 (3 : Int).toNat), .inr (.inl 30)], n, D, (us (us s 3019 j2) 3020 j7), p, c) _
      have b11 : 0 ≤ (c 46 (3 : Int).toNat) ∧ (c 46 (3 : Int).toNat) ≤ 65535 := hC 46 _
      have K13 : ∀ (j12 : Int) , (-2147483648 ≤ j12 ∧ j12 ≤ 2147483647) → (True) → tt Zi d 143 (287, [some (.inr (.inl 30)), some (.inr (.inl 46)), some (.inl bits), some (.inl nr), some (.inl top), some (.inl f_), none], [.inl j12, .inr (.inl 30)], n, D, (us (us s 3019 j2) 3020 j7), p, c) (fun R H => ∃ (s' : Nat → Int) (r : Int), R = .inl (some (.inl r)) ∧ H = (n, D, s', p, c) ∧ bS s' ∧ fr s s' [3017, 3018, 3019, 3020, 3021, 3022, 3023, 3024, 3025, 3026] ∧ (0 ≤ r ∧ r ≤ 1) ∧ (r = 1 → mv s')) := by
        intro j12 b15 hj14
        refine tt_k 8 (S' := (299, [some (.inr (.inl 30)), some (.inr (.inl 46)), some (.inl bits), some (.inl nr), some (.inl top), some (.inl f_), none], [.inl (((2 * (s 3018)) + 1)), .inr (.inl 30)], n, D, (us (us (us s 3019 j2) 3020 j7) 3021 j12), p, c)) rfl ?_
        have b17 : -2147483648 ≤ (s 3018) ∧ (s 3018) ≤ 2147483647 := hS 3018
        refine tt_wm (x := ((2 * (s 3018)) + 1)) ?_
        intro v16 b18 w19
        show tt Zi d 143 (299, [some (.inr (.inl 30)), some (.inr (.inl 46)), some (.inl bits), some (.inl nr), some (.inl top), some (.inl f_), none], [.inl v16, .inr (.inl 30)], n, D, (us (us (us s 3019 j2) 3020 j7) 3021 j12), p, c) _
        refine tt_k 9 (S' := (314, [some (.inr (.inl 30)), some (.inr (.inl 46)), some (.inl bits), some (.inl nr), some (.inl top), some (.inl f_), none], [.inl (((s 3017) + (2 * (s 3018)))), .inr (.inl 30)], n, D, (us (us (us (us s 3019 j2) 3020 j7) 3021 j12) 3023 v16), p, c)) rfl ?_
        have b21 : 0 ≤ (s 3017) ∧ (s 3017) ≤ 65535 := hS 3017
        refine tt_wm (x := ((s 3017) + (2 * (s 3018)))) ?_
        intro v20 b22 w23
        show tt Zi d 143 (314, [some (.inr (.inl 30)), some (.inr (.inl 46)), some (.inl bits), some (.inl nr), some (.inl top), some (.inl f_), none], [.inl v20, .inr (.inl 30)], n, D, (us (us (us (us s 3019 j2) 3020 j7) 3021 j12) 3023 v16), p, c) _
        refine tt_k 1 (S' := (315, [some (.inr (.inl 30)), some (.inr (.inl 46)), some (.inl bits), some (.inl nr), some (.inl top), some (.inl f_), none], [.inr (.inl 30), .inl v20, .inr (.inl 30)], n, D, (us (us (us (us s 3019 j2) 3020 j7) 3021 j12) 3023 v16), p, c)) rfl ?_
        refine tt_k 1 (S' := (318, [some (.inr (.inl 30)), some (.inr (.inl 46)), some (.inl bits), some (.inl nr), some (.inl top), some (.inl f_), none], [.inl v16, .inl v20, .inr (.inl 30)], n, D, (us (us (us (us s 3019 j2) 3020 j7) 3021 j12) 3023 v16), p, c)) rfl ?_
        refine tt_dvn (x := v20) (y := v16) rfl (by omega) (by omega) (by omega) ?_
        show tt Zi d 143 (319, [some (.inr (.inl 30)), some (.inr (.inl 46)), some (.inl bits), some (.inl nr), some (.inl top), some (.inl f_), none], [.inl (Int.tdiv v20 v16), .inr (.inl 30)], n, D, (us (us (us (us s 3019 j2) 3020 j7) 3021 j12) 3023 v16), p, c) _
        have hrb := rng_bd (most := (s 3017)) (X := v20) (Y := v16) (by omega) (by omega) (by omega) (by omega) (by omega)
        refine tt_k 2 (S' := (321, [some (.inr (.inl 30)), some (.inr (.inl 46)), some (.inl bits), some (.inl nr), some (.inl top), some (.inl f_), none], [.inl ((Int.tdiv v20 v16) + 1), .inr (.inl 30)], n, D, (us (us (us (us s 3019 j2) 3020 j7) 3021 j12) 3023 v16), p, c)) rfl ?_
        refine tt_wm (x := ((Int.tdiv v20 v16) + 1)) ?_
        intro v24 b25 w26
        show tt Zi d 143 (321, [some (.inr (.inl 30)), some (.inr (.inl 46)), some (.inl bits), some (.inl nr), some (.inl top), some (.inl f_), none], [.inl v24, .inr (.inl 30)], n, D, (us (us (us (us s 3019 j2) 3020 j7) 3021 j12) 3023 v16), p, c) _
        refine tt_k 4 (S' := (329, [some (.inr (.inl 30)), some (.inr (.inl 46)), some (.inl bits), some (.inl nr), some (.inl top), some (.inl f_), none], [], n, D, (us (us (us (us (us (us s 3019 j2) 3020 j7) 3021 j12) 3023 v16) 3024 v24) 3025 0), p, c)) rfl ?_
        refine k_measCR_L329 (Zi := Zi) (D := D) (s := (us (us (us (us (us (us s 3019 j2) 3020 j7) 3021 j12) 3023 v16) 3024 v24) 3025 0)) (p := p) (c := c) hd (bS_us (bS_us (bS_us (bS_us (bS_us (bS_us hS (show -2147483648 ≤ j2 ∧ j2 ≤ 2147483647 by omega)) (show -2147483648 ≤ j7 ∧ j7 ≤ 2147483647 by omega)) (show -2147483648 ≤ j12 ∧ j12 ≤ 2147483647 by omega)) (show -2147483648 ≤ v16 ∧ v16 ≤ 2147483647 by omega)) (show -2147483648 ≤ v24 ∧ v24 ≤ 2147483647 by omega)) (show 0 ≤ 0 ∧ 0 ≤ 31 by omega)) hC   (show v24 ≤ 65537 by omega) ?_ _  (us (us (us (us (us (us s 3019 j2) 3020 j7) 3021 j12) 3023 v16) 3024 v24) 3025 0) (bS_us (bS_us (bS_us (bS_us (bS_us (bS_us hS (show -2147483648 ≤ j2 ∧ j2 ≤ 2147483647 by omega)) (show -2147483648 ≤ j7 ∧ j7 ≤ 2147483647 by omega)) (show -2147483648 ≤ j12 ∧ j12 ≤ 2147483647 by omega)) (show -2147483648 ≤ v16 ∧ v16 ≤ 2147483647 by omega)) (show -2147483648 ≤ v24 ∧ v24 ≤ 2147483647 by omega)) (show 0 ≤ 0 ∧ 0 ≤ 31 by omega)) fr_rf (Or.inl rfl) (show (0 : Int) ≤ 0 ∧ (0 : Int) ≤ 17 by decide) (Nat.lt_succ_self _)
        intro s27 hS27 f28 i29 i30 hx31
        show tt Zi d 143 (355, [some (.inr (.inl 30)), some (.inr (.inl 46)), some (.inl bits), some (.inl nr), some (.inl top), some (.inl f_), none], [], n, D, s27, p, c) _
        have e32 : s27 3017 = (s 3017) := (f28 3017 (by decide))
        have b33 : 0 ≤ (s27 3017) ∧ (s27 3017) ≤ 65535 := hS27 3017
        have e34 : s27 3018 = (s 3018) := (f28 3018 (by decide))
        have b35 : -2147483648 ≤ (s27 3018) ∧ (s27 3018) ≤ 2147483647 := hS27 3018
        have e36 : s27 3019 = j2 := (f28 3019 (by decide))
        have b37 : -2147483648 ≤ (s27 3019) ∧ (s27 3019) ≤ 2147483647 := hS27 3019
        have e38 : s27 3020 = j7 := (f28 3020 (by decide))
        have b39 : -2147483648 ≤ (s27 3020) ∧ (s27 3020) ≤ 2147483647 := hS27 3020
        have e40 : s27 3021 = j12 := (f28 3021 (by decide))
        have b41 : -2147483648 ≤ (s27 3021) ∧ (s27 3021) ≤ 2147483647 := hS27 3021
        have e42 : s27 3022 = (s 3022) := (f28 3022 (by decide))
        have b43 : 0 ≤ (s27 3022) ∧ (s27 3022) ≤ 65535 := hS27 3022
        have b44 : 0 ≤ (s 3022) ∧ (s 3022) ≤ 65535 := hS 3022
        have e45 : s27 3023 = v16 := (f28 3023 (by decide))
        have b46 : -2147483648 ≤ (s27 3023) ∧ (s27 3023) ≤ 2147483647 := hS27 3023
        have e47 : s27 3024 = v24 := (f28 3024 (by decide))
        have b48 : -2147483648 ≤ (s27 3024) ∧ (s27 3024) ≤ 2147483647 := hS27 3024
        replace hx31 : v24 ≤ 2 ^ (s27 3025).toNat := hx31
        replace i29 : s27 3025 = 0 ∨ 2 ^ (s27 3025 - 1).toNat < v24 := i29
        refine tt_k 2 (S' := (358, [some (.inr (.inl 30)), some (.inr (.inl 46)), some (.inl bits), some (.inl nr), some (.inl top), some (.inl 2), none], [], n, D, s27, p, c)) rfl ?_
        refine k_measCR_L358 (Zi := Zi) (D := D) (s := s27) (p := p) (c := c) hd hS27 hC   (show (s27 3017) ≤ 65535 by omega) ?_ _ 2  (by omega) (Nat.lt_succ_self _)
        intro x49 b50 hx51
        show tt Zi d 143 (375, [some (.inr (.inl 30)), some (.inr (.inl 46)), some (.inl bits), some (.inl nr), some (.inl top), some (.inl x49), none], [], n, D, s27, p, c) _
        refine tt_k 5 (S' := (383, [some (.inr (.inl 30)), some (.inr (.inl 46)), some (.inl bits), some (.inl nr), some (.inl top), some (.inl x49), none], [.inl x49, .inl 8, .inl x49, .inl 2, .inr (.inl 30)], n, D, s27, p, c)) rfl ?_
        refine tt_cl (by omega) rfl (k_more (Zi := Zi) (D := D) (s := s27) (p := p) (c := c) (by omega) hS27 hC 8 x49 (by omega) (by omega)) ?_
        rintro _ _ ⟨r52, rfl, rfl, b53, k54⟩
        show tt Zi d 143 (386, [some (.inr (.inl 30)), some (.inr (.inl 46)), some (.inl bits), some (.inl nr), some (.inl top), some (.inl x49), none], [.inl r52, .inl x49, .inl 2, .inr (.inl 30)], n, D, s27, p, c) _
        replace k54 : r52 = max 8 x49 := k54
        subst k54
        show tt Zi d 143 (386, [some (.inr (.inl 30)), some (.inr (.inl 46)), some (.inl bits), some (.inl nr), some (.inl top), some (.inl x49), none], [.inl (max 8 x49), .inl x49, .inl 2, .inr (.inl 30)], n, D, s27, p, c) _
        refine tt_k 7 (S' := (397, [some (.inr (.inl 30)), some (.inr (.inl 46)), some (.inl bits), some (.inl nr), some (.inl top), some (.inl x49), none], [.inl ((s27 3018) + 1)], n, D, (us s27 3026 ((2 * (x49 + (max 8 x49))))), p, c)) rfl ?_
        refine tt_wm (x := ((s27 3018) + 1)) ?_
        intro v55 b56 w57
        show tt Zi d 143 (397, [some (.inr (.inl 30)), some (.inr (.inl 46)), some (.inl bits), some (.inl nr), some (.inl top), some (.inl x49), none], [.inl v55], n, D, (us s27 3026 ((2 * (x49 + (max 8 x49))))), p, c) _
        refine tt_k 2 (S' := (401, [some (.inr (.inl 30)), some (.inr (.inl 46)), some (.inl bits), some (.inl nr), some (.inl top), some (.inl x49), none], [.inl (s27 3019), .inl v55], n, D, (us s27 3026 ((2 * (x49 + (max 8 x49))))), p, c)) rfl ?_
        have K59 : ∀ (j58 : Int) , (0 ≤ j58 ∧ j58 ≤ 1) → (j58 = 1 → v55 ≤ (s27 3019) ∧ (s27 3019) ≤ (s27 3020) ∧ (s27 3020) ≤ (s27 3021) ∧ (s27 3021) ≤ (s27 3017)) → (((s27 3019) < v55 ∧ j58 = 0) ∨ (v55 ≤ (s27 3019) ∧ (s27 3020) < (s27 3019) ∧ j58 = 0) ∨ (v55 ≤ (s27 3019) ∧ (s27 3019) ≤ (s27 3020) ∧ (s27 3021) < (s27 3020) ∧ j58 = 0) ∨ (v55 ≤ (s27 3019) ∧ (s27 3019) ≤ (s27 3020) ∧ (s27 3020) ≤ (s27 3021) ∧ (s27 3017) < (s27 3021) ∧ j58 = 0) ∨ (v55 ≤ (s27 3019) ∧ (s27 3019) ≤ (s27 3020) ∧ (s27 3020) ≤ (s27 3021) ∧ (s27 3021) ≤ (s27 3017) ∧ j58 = 1)) → tt Zi d 143 (442, [some (.inr (.inl 30)), some (.inr (.inl 46)), some (.inl bits), some (.inl nr), some (.inl top), some (.inl x49), none], [.inl j58], n, D, (us s27 3026 ((2 * (x49 + (max 8 x49))))), p, c) (fun R H => ∃ (s' : Nat → Int) (r : Int), R = .inl (some (.inl r)) ∧ H = (n, D, s', p, c) ∧ bS s' ∧ fr s s' [3017, 3018, 3019, 3020, 3021, 3022, 3023, 3024, 3025, 3026] ∧ (0 ≤ r ∧ r ≤ 1) ∧ (r = 1 → mv s')) := by
          intro j58 b61 b62 hj60
          refine tt_k 4 (S' := (450, [some (.inr (.inl 30)), some (.inr (.inl 46)), some (.inl bits), some (.inl nr), some (.inl top), some (.inl x49), some (.inl j58)], [.inl top, .inl (s27 3017)], n, D, (us s27 3026 ((2 * (x49 + (max 8 x49))))), p, c)) rfl ?_
          refine tb_gt (x := (s27 3017)) (y := top) rfl rfl (by omega) (fun h63 => ?_) (fun h63 => ?_)
          · show tt Zi d 143 (510, [some (.inr (.inl 30)), some (.inr (.inl 46)), some (.inl bits), some (.inl nr), some (.inl top), some (.inl x49), some (.inl j58)], [], n, D, (us s27 3026 ((2 * (x49 + (max 8 x49))))), p, c) _
            refine tt_k 1 (S' := (511, [some (.inr (.inl 30)), some (.inr (.inl 46)), some (.inl bits), some (.inl nr), some (.inl top), some (.inl x49), some (.inl j58)], [.inl 0], n, D, (us s27 3026 ((2 * (x49 + (max 8 x49))))), p, c)) rfl ?_
            exact tt_rtb rfl rfl (by omega) ⟨(us s27 3026 ((2 * (x49 + (max 8 x49))))), 0, rfl, rfl, (bS_us hS27 (show 0 ≤ (2 * (x49 + (max 8 x49))) ∧ (2 * (x49 + (max 8 x49))) ≤ 96 by omega)), (fr_us (by decide) (fr_tr (fr_us (by decide) (fr_us (by decide) (fr_us (by decide) (fr_us (by decide) (fr_us (by decide) (fr_us (by decide) fr_rf)))))) f28 (by decide))), by omega, fun h => absurd h (by decide)⟩
          · show tt Zi d 143 (453, [some (.inr (.inl 30)), some (.inr (.inl 46)), some (.inl bits), some (.inl nr), some (.inl top), some (.inl x49), some (.inl j58)], [], n, D, (us s27 3026 ((2 * (x49 + (max 8 x49))))), p, c) _
            refine tt_k 4 (S' := (461, [some (.inr (.inl 30)), some (.inr (.inl 46)), some (.inl bits), some (.inl nr), some (.inl top), some (.inl x49), some (.inl j58)], [.inl 255, .inl 0, .inl (s27 3018)], n, D, (us s27 3026 ((2 * (x49 + (max 8 x49))))), p, c)) rfl ?_
            refine tt_cl (by omega) rfl (k_isIn (Zi := Zi) (D := D) (s := (us s27 3026 ((2 * (x49 + (max 8 x49)))))) (p := p) (c := c) (by omega) (bS_us hS27 (show 0 ≤ (2 * (x49 + (max 8 x49))) ∧ (2 * (x49 + (max 8 x49))) ≤ 96 by omega)) hC (s27 3018) 0 255 (by omega) (by omega) (by omega)) ?_
            rintro _ _ ⟨r64, rfl, rfl, b65, k66⟩
            show tt Zi d 143 (464, [some (.inr (.inl 30)), some (.inr (.inl 46)), some (.inl bits), some (.inl nr), some (.inl top), some (.inl x49), some (.inl j58)], [.inl r64], n, D, (us s27 3026 ((2 * (x49 + (max 8 x49))))), p, c) _
            replace k66 : r64 = if 0 ≤ (s27 3018) ∧ (s27 3018) ≤ 255 then (1 : Int) else 0 := k66
            subst k66
            show tt Zi d 143 (464, [some (.inr (.inl 30)), some (.inr (.inl 46)), some (.inl bits), some (.inl nr), some (.inl top), some (.inl x49), some (.inl j58)], [.inl (if 0 ≤ (s27 3018) ∧ (s27 3018) ≤ 255 then (1 : Int) else 0)], n, D, (us s27 3026 ((2 * (x49 + (max 8 x49))))), p, c) _
            refine tz_eq (x := (if 0 ≤ (s27 3018) ∧ (s27 3018) ≤ 255 then (1 : Int) else 0)) rfl rfl (by omega) (fun h67 => ?_) (fun h67 => ?_)
            · show tt Zi d 143 (510, [some (.inr (.inl 30)), some (.inr (.inl 46)), some (.inl bits), some (.inl nr), some (.inl top), some (.inl x49), some (.inl j58)], [], n, D, (us s27 3026 ((2 * (x49 + (max 8 x49))))), p, c) _
              refine tt_k 1 (S' := (511, [some (.inr (.inl 30)), some (.inr (.inl 46)), some (.inl bits), some (.inl nr), some (.inl top), some (.inl x49), some (.inl j58)], [.inl 0], n, D, (us s27 3026 ((2 * (x49 + (max 8 x49))))), p, c)) rfl ?_
              exact tt_rtb rfl rfl (by omega) ⟨(us s27 3026 ((2 * (x49 + (max 8 x49))))), 0, rfl, rfl, (bS_us hS27 (show 0 ≤ (2 * (x49 + (max 8 x49))) ∧ (2 * (x49 + (max 8 x49))) ≤ 96 by omega)), (fr_us (by decide) (fr_tr (fr_us (by decide) (fr_us (by decide) (fr_us (by decide) (fr_us (by decide) (fr_us (by decide) (fr_us (by decide) fr_rf)))))) f28 (by decide))), by omega, fun h => absurd h (by decide)⟩
            · show tt Zi d 143 (467, [some (.inr (.inl 30)), some (.inr (.inl 46)), some (.inl bits), some (.inl nr), some (.inl top), some (.inl x49), some (.inl j58)], [], n, D, (us s27 3026 ((2 * (x49 + (max 8 x49))))), p, c) _
              refine tt_k 5 (S' := (476, [some (.inr (.inl 30)), some (.inr (.inl 46)), some (.inl bits), some (.inl nr), some (.inl top), some (.inl x49), some (.inl j58)], [.inl 2, .inl (s27 3017), .inl (s27 3018)], n, D, (us s27 3026 ((2 * (x49 + (max 8 x49))))), p, c)) rfl ?_
              refine tt_dvp (x := (s27 3017)) (y := 2) rfl (by omega) ?_
              show tt Zi d 143 (477, [some (.inr (.inl 30)), some (.inr (.inl 46)), some (.inl bits), some (.inl nr), some (.inl top), some (.inl x49), some (.inl j58)], [.inl ((s27 3017) / 2), .inl (s27 3018)], n, D, (us s27 3026 ((2 * (x49 + (max 8 x49))))), p, c) _
              refine tb_gt (x := (s27 3018)) (y := ((s27 3017) / 2)) rfl rfl (by omega) (fun h68 => ?_) (fun h68 => ?_)
              · show tt Zi d 143 (510, [some (.inr (.inl 30)), some (.inr (.inl 46)), some (.inl bits), some (.inl nr), some (.inl top), some (.inl x49), some (.inl j58)], [], n, D, (us s27 3026 ((2 * (x49 + (max 8 x49))))), p, c) _
                refine tt_k 1 (S' := (511, [some (.inr (.inl 30)), some (.inr (.inl 46)), some (.inl bits), some (.inl nr), some (.inl top), some (.inl x49), some (.inl j58)], [.inl 0], n, D, (us s27 3026 ((2 * (x49 + (max 8 x49))))), p, c)) rfl ?_
                exact tt_rtb rfl rfl (by omega) ⟨(us s27 3026 ((2 * (x49 + (max 8 x49))))), 0, rfl, rfl, (bS_us hS27 (show 0 ≤ (2 * (x49 + (max 8 x49))) ∧ (2 * (x49 + (max 8 x49))) ≤ 96 by omega)), (fr_us (by decide) (fr_tr (fr_us (by decide) (fr_us (by decide) (fr_us (by decide) (fr_us (by decide) (fr_us (by decide) (fr_us (by decide) fr_rf)))))) f28 (by decide))), by omega, fun h => absurd h (by decide)⟩
              · show tt Zi d 143 (480, [some (.inr (.inl 30)), some (.inr (.inl 46)), some (.inl bits), some (.inl nr), some (.inl top), some (.inl x49), some (.inl j58)], [], n, D, (us s27 3026 ((2 * (x49 + (max 8 x49))))), p, c) _
                refine tt_k 1 (S' := (482, [some (.inr (.inl 30)), some (.inr (.inl 46)), some (.inl bits), some (.inl nr), some (.inl top), some (.inl x49), some (.inl j58)], [.inl j58], n, D, (us s27 3026 ((2 * (x49 + (max 8 x49))))), p, c)) rfl ?_
                refine tz_eq (x := j58) rfl rfl (by omega) (fun h69 => ?_) (fun h69 => ?_)
                · show tt Zi d 143 (510, [some (.inr (.inl 30)), some (.inr (.inl 46)), some (.inl bits), some (.inl nr), some (.inl top), some (.inl x49), some (.inl j58)], [], n, D, (us s27 3026 ((2 * (x49 + (max 8 x49))))), p, c) _
                  refine tt_k 1 (S' := (511, [some (.inr (.inl 30)), some (.inr (.inl 46)), some (.inl bits), some (.inl nr), some (.inl top), some (.inl x49), some (.inl j58)], [.inl 0], n, D, (us s27 3026 ((2 * (x49 + (max 8 x49))))), p, c)) rfl ?_
                  exact tt_rtb rfl rfl (by omega) ⟨(us s27 3026 ((2 * (x49 + (max 8 x49))))), 0, rfl, rfl, (bS_us hS27 (show 0 ≤ (2 * (x49 + (max 8 x49))) ∧ (2 * (x49 + (max 8 x49))) ≤ 96 by omega)), (fr_us (by decide) (fr_tr (fr_us (by decide) (fr_us (by decide) (fr_us (by decide) (fr_us (by decide) (fr_us (by decide) (fr_us (by decide) fr_rf)))))) f28 (by decide))), by omega, fun h => absurd h (by decide)⟩
                · show tt Zi d 143 (485, [some (.inr (.inl 30)), some (.inr (.inl 46)), some (.inl bits), some (.inl nr), some (.inl top), some (.inl x49), some (.inl j58)], [], n, D, (us s27 3026 ((2 * (x49 + (max 8 x49))))), p, c) _
                  refine tt_k 6 (S' := (497, [some (.inr (.inl 30)), some (.inr (.inl 46)), some (.inl bits), some (.inl nr), some (.inl top), some (.inl x49), some (.inl j58)], [.inl (s27 3017), .inl 255, .inl 3, .inl (s27 3022)], n, D, (us s27 3026 ((2 * (x49 + (max 8 x49))))), p, c)) rfl ?_
                  refine tt_cl (by omega) rfl (k_more (Zi := Zi) (D := D) (s := (us s27 3026 ((2 * (x49 + (max 8 x49)))))) (p := p) (c := c) (by omega) (bS_us hS27 (show 0 ≤ (2 * (x49 + (max 8 x49))) ∧ (2 * (x49 + (max 8 x49))) ≤ 96 by omega)) hC 255 (s27 3017) (by omega) (by omega)) ?_
                  rintro _ _ ⟨r70, rfl, rfl, b71, k72⟩
                  show tt Zi d 143 (500, [some (.inr (.inl 30)), some (.inr (.inl 46)), some (.inl bits), some (.inl nr), some (.inl top), some (.inl x49), some (.inl j58)], [.inl r70, .inl 3, .inl (s27 3022)], n, D, (us s27 3026 ((2 * (x49 + (max 8 x49))))), p, c) _
                  replace k72 : r70 = max 255 (s27 3017) := k72
                  subst k72
                  show tt Zi d 143 (500, [some (.inr (.inl 30)), some (.inr (.inl 46)), some (.inl bits), some (.inl nr), some (.inl top), some (.inl x49), some (.inl j58)], [.inl (max 255 (s27 3017)), .inl 3, .inl (s27 3022)], n, D, (us s27 3026 ((2 * (x49 + (max 8 x49))))), p, c) _
                  refine tt_cl (by omega) rfl (k_isIn (Zi := Zi) (D := D) (s := (us s27 3026 ((2 * (x49 + (max 8 x49)))))) (p := p) (c := c) (by omega) (bS_us hS27 (show 0 ≤ (2 * (x49 + (max 8 x49))) ∧ (2 * (x49 + (max 8 x49))) ≤ 96 by omega)) hC (s27 3022) 3 (max 255 (s27 3017)) (by omega) (by omega) (by omega)) ?_
                  rintro _ _ ⟨r73, rfl, rfl, b74, k75⟩
                  show tt Zi d 143 (503, [some (.inr (.inl 30)), some (.inr (.inl 46)), some (.inl bits), some (.inl nr), some (.inl top), some (.inl x49), some (.inl j58)], [.inl r73], n, D, (us s27 3026 ((2 * (x49 + (max 8 x49))))), p, c) _
                  replace k75 : r73 = if 3 ≤ (s27 3022) ∧ (s27 3022) ≤ (max 255 (s27 3017)) then (1 : Int) else 0 := k75
                  subst k75
                  show tt Zi d 143 (503, [some (.inr (.inl 30)), some (.inr (.inl 46)), some (.inl bits), some (.inl nr), some (.inl top), some (.inl x49), some (.inl j58)], [.inl ((if 3 ≤ (s27 3022) ∧ (s27 3022) ≤ (max 255 (s27 3017)) then (1 : Int) else 0))], n, D, (us s27 3026 ((2 * (x49 + (max 8 x49))))), p, c) _
                  refine tz_eq (x := (if 3 ≤ (s27 3022) ∧ (s27 3022) ≤ (max 255 (s27 3017)) then (1 : Int) else 0)) rfl rfl (by omega) (fun h76 => ?_) (fun h76 => ?_)
                  · show tt Zi d 143 (510, [some (.inr (.inl 30)), some (.inr (.inl 46)), some (.inl bits), some (.inl nr), some (.inl top), some (.inl x49), some (.inl j58)], [], n, D, (us s27 3026 ((2 * (x49 + (max 8 x49))))), p, c) _
                    refine tt_k 1 (S' := (511, [some (.inr (.inl 30)), some (.inr (.inl 46)), some (.inl bits), some (.inl nr), some (.inl top), some (.inl x49), some (.inl j58)], [.inl 0], n, D, (us s27 3026 ((2 * (x49 + (max 8 x49))))), p, c)) rfl ?_
                    exact tt_rtb rfl rfl (by omega) ⟨(us s27 3026 ((2 * (x49 + (max 8 x49))))), 0, rfl, rfl, (bS_us hS27 (show 0 ≤ (2 * (x49 + (max 8 x49))) ∧ (2 * (x49 + (max 8 x49))) ≤ 96 by omega)), (fr_us (by decide) (fr_tr (fr_us (by decide) (fr_us (by decide) (fr_us (by decide) (fr_us (by decide) (fr_us (by decide) (fr_us (by decide) fr_rf)))))) f28 (by decide))), by omega, fun h => absurd h (by decide)⟩
                  · show tt Zi d 143 (506, [some (.inr (.inl 30)), some (.inr (.inl 46)), some (.inl bits), some (.inl nr), some (.inl top), some (.inl x49), some (.inl j58)], [], n, D, (us s27 3026 ((2 * (x49 + (max 8 x49))))), p, c) _
                    refine tt_k 2 (S' := (511, [some (.inr (.inl 30)), some (.inr (.inl 46)), some (.inl bits), some (.inl nr), some (.inl top), some (.inl x49), some (.inl j58)], [.inl 1], n, D, (us s27 3026 ((2 * (x49 + (max 8 x49))))), p, c)) rfl ?_
                    have hmv : mv (us s27 3026 ((2 * (x49 + (max 8 x49))))) := mv_mk (b := x49) (show (s27 3017) ≤ 65535 by omega) (show 0 ≤ (s27 3018) ∧ (s27 3018) ≤ 255 by omega) (show (s27 3018) ≤ (s27 3017) / 2 by omega) (show (s27 3023) = 2 * (s27 3018) + 1 by omega) (show (s27 3024) = ((s27 3017) + 2 * (s27 3018)).tdiv (s27 3023) + 1 by have hX : v20 = (s27 3017) + 2 * (s27 3018) := (by omega); have hY : (s27 3023) = v16 := (by omega); rw [← hX, hY]; omega) (show (s27 3018) < (s27 3019) ∧ (s27 3019) ≤ (s27 3020) ∧ (s27 3020) ≤ (s27 3021) ∧ (s27 3021) ≤ (s27 3017) by omega) (show 3 ≤ (s27 3022) ∧ (s27 3022) ≤ 65535 by omega) (show 0 ≤ (s27 3025) by omega) (show (s27 3024) ≤ 2 ^ ((s27 3025)).toNat by omega) (show (s27 3025) = 0 ∨ 2 ^ ((s27 3025) - 1).toNat < (s27 3024) by omega) (show 2 ≤ x49 ∧ x49 ≤ 16 by omega) (show (s27 3017) < 2 ^ (x49).toNat by omega) (show (2 * (x49 + (max 8 x49))) = _ from rfl)
                    exact tt_rtb rfl rfl (by omega) ⟨(us s27 3026 ((2 * (x49 + (max 8 x49))))), 1, rfl, rfl, (bS_us hS27 (show 0 ≤ (2 * (x49 + (max 8 x49))) ∧ (2 * (x49 + (max 8 x49))) ≤ 96 by omega)), (fr_us (by decide) (fr_tr (fr_us (by decide) (fr_us (by decide) (fr_us (by decide) (fr_us (by decide) (fr_us (by decide) (fr_us (by decide) fr_rf)))))) f28 (by decide))), by omega, fun _ => hmv⟩
        refine tb_gt (x := v55) (y := (s27 3019)) rfl rfl (by omega) (fun h77 => ?_) (fun h77 => ?_)
        · show tt Zi d 143 (441, [some (.inr (.inl 30)), some (.inr (.inl 46)), some (.inl bits), some (.inl nr), some (.inl top), some (.inl x49), none], [], n, D, (us s27 3026 ((2 * (x49 + (max 8 x49))))), p, c) _
          refine tt_k 1 (S' := (442, [some (.inr (.inl 30)), some (.inr (.inl 46)), some (.inl bits), some (.inl nr), some (.inl top), some (.inl x49), none], [.inl 0], n, D, (us s27 3026 ((2 * (x49 + (max 8 x49))))), p, c)) rfl ?_
          exact K59 0  (by omega) (by omega) (Or.inl ⟨h77, rfl⟩)
        · show tt Zi d 143 (404, [some (.inr (.inl 30)), some (.inr (.inl 46)), some (.inl bits), some (.inl nr), some (.inl top), some (.inl x49), none], [], n, D, (us s27 3026 ((2 * (x49 + (max 8 x49))))), p, c) _
          refine tt_k 4 (S' := (412, [some (.inr (.inl 30)), some (.inr (.inl 46)), some (.inl bits), some (.inl nr), some (.inl top), some (.inl x49), none], [.inl (s27 3020), .inl (s27 3019)], n, D, (us s27 3026 ((2 * (x49 + (max 8 x49))))), p, c)) rfl ?_
          refine tb_gt (x := (s27 3019)) (y := (s27 3020)) rfl rfl (by omega) (fun h78 => ?_) (fun h78 => ?_)
          · show tt Zi d 143 (441, [some (.inr (.inl 30)), some (.inr (.inl 46)), some (.inl bits), some (.inl nr), some (.inl top), some (.inl x49), none], [], n, D, (us s27 3026 ((2 * (x49 + (max 8 x49))))), p, c) _
            refine tt_k 1 (S' := (442, [some (.inr (.inl 30)), some (.inr (.inl 46)), some (.inl bits), some (.inl nr), some (.inl top), some (.inl x49), none], [.inl 0], n, D, (us s27 3026 ((2 * (x49 + (max 8 x49))))), p, c)) rfl ?_
            exact K59 0  (by omega) (by omega) (Or.inr (Or.inl ⟨h77, h78, rfl⟩))
          · show tt Zi d 143 (415, [some (.inr (.inl 30)), some (.inr (.inl 46)), some (.inl bits), some (.inl nr), some (.inl top), some (.inl x49), none], [], n, D, (us s27 3026 ((2 * (x49 + (max 8 x49))))), p, c) _
            refine tt_k 4 (S' := (423, [some (.inr (.inl 30)), some (.inr (.inl 46)), some (.inl bits), some (.inl nr), some (.inl top), some (.inl x49), none], [.inl (s27 3021), .inl (s27 3020)], n, D, (us s27 3026 ((2 * (x49 + (max 8 x49))))), p, c)) rfl ?_
            refine tb_gt (x := (s27 3020)) (y := (s27 3021)) rfl rfl (by omega) (fun h79 => ?_) (fun h79 => ?_)
            · show tt Zi d 143 (441, [some (.inr (.inl 30)), some (.inr (.inl 46)), some (.inl bits), some (.inl nr), some (.inl top), some (.inl x49), none], [], n, D, (us s27 3026 ((2 * (x49 + (max 8 x49))))), p, c) _
              refine tt_k 1 (S' := (442, [some (.inr (.inl 30)), some (.inr (.inl 46)), some (.inl bits), some (.inl nr), some (.inl top), some (.inl x49), none], [.inl 0], n, D, (us s27 3026 ((2 * (x49 + (max 8 x49))))), p, c)) rfl ?_
              exact K59 0  (by omega) (by omega) (Or.inr (Or.inr (Or.inl ⟨h77, h78, h79, rfl⟩)))
            · show tt Zi d 143 (426, [some (.inr (.inl 30)), some (.inr (.inl 46)), some (.inl bits), some (.inl nr), some (.inl top), some (.inl x49), none], [], n, D, (us s27 3026 ((2 * (x49 + (max 8 x49))))), p, c) _
              refine tt_k 4 (S' := (434, [some (.inr (.inl 30)), some (.inr (.inl 46)), some (.inl bits), some (.inl nr), some (.inl top), some (.inl x49), none], [.inl (s27 3017), .inl (s27 3021)], n, D, (us s27 3026 ((2 * (x49 + (max 8 x49))))), p, c)) rfl ?_
              refine tb_gt (x := (s27 3021)) (y := (s27 3017)) rfl rfl (by omega) (fun h80 => ?_) (fun h80 => ?_)
              · show tt Zi d 143 (441, [some (.inr (.inl 30)), some (.inr (.inl 46)), some (.inl bits), some (.inl nr), some (.inl top), some (.inl x49), none], [], n, D, (us s27 3026 ((2 * (x49 + (max 8 x49))))), p, c) _
                refine tt_k 1 (S' := (442, [some (.inr (.inl 30)), some (.inr (.inl 46)), some (.inl bits), some (.inl nr), some (.inl top), some (.inl x49), none], [.inl 0], n, D, (us s27 3026 ((2 * (x49 + (max 8 x49))))), p, c)) rfl ?_
                exact K59 0  (by omega) (by omega) (Or.inr (Or.inr (Or.inr (Or.inl ⟨h77, h78, h79, h80, rfl⟩))))
              · show tt Zi d 143 (437, [some (.inr (.inl 30)), some (.inr (.inl 46)), some (.inl bits), some (.inl nr), some (.inl top), some (.inl x49), none], [], n, D, (us s27 3026 ((2 * (x49 + (max 8 x49))))), p, c) _
                refine tt_k 2 (S' := (442, [some (.inr (.inl 30)), some (.inr (.inl 46)), some (.inl bits), some (.inl nr), some (.inl top), some (.inl x49), none], [.inl 1], n, D, (us s27 3026 ((2 * (x49 + (max 8 x49))))), p, c)) rfl ?_
                exact K59 1  (by omega) (by omega) (Or.inr (Or.inr (Or.inr (Or.inr (⟨h77, h78, h79, h80, rfl⟩)))))
      refine tz_ne (x := (c 46 (3 : Int).toNat)) rfl rfl (by omega) (fun h81 => ?_) (fun h81 => ?_)
      · show tt Zi d 143 (284, [some (.inr (.inl 30)), some (.inr (.inl 46)), some (.inl bits), some (.inl nr), some (.inl top), some (.inl f_), none], [.inr (.inl 30)], n, D, (us (us s 3019 j2) 3020 j7), p, c) _
        refine tt_k 2 (S' := (286, [some (.inr (.inl 30)), some (.inr (.inl 46)), some (.inl bits), some (.inl nr), some (.inl top), some (.inl f_), none], [.inl 3, .inr (.inl 46), .inr (.inl 30)], n, D, (us (us s 3019 j2) 3020 j7), p, c)) rfl ?_
        refine tt_ildv (i := 3) (v := (c 46 (3 : Int).toNat)) rfl rfl (by omega) rfl ?_
        show tt Zi d 143 (287, [some (.inr (.inl 30)), some (.inr (.inl 46)), some (.inl bits), some (.inl nr), some (.inl top), some (.inl f_), none], [.inl (c 46 (3 : Int).toNat), .inr (.inl 30)], n, D, (us (us s 3019 j2) 3020 j7), p, c) _
        exact K13 (c 46 (3 : Int).toNat)  (by omega) (trivial)
      · show tt Zi d 143 (269, [some (.inr (.inl 30)), some (.inr (.inl 46)), some (.inl bits), some (.inl nr), some (.inl top), some (.inl f_), none], [.inr (.inl 30)], n, D, (us (us s 3019 j2) 3020 j7), p, c) _
        refine tt_k 5 (S' := (278, [some (.inr (.inl 30)), some (.inr (.inl 46)), some (.inl bits), some (.inl nr), some (.inl top), some (.inl f_), none], [.inl j7, .inl (s 3021), .inr (.inl 30), .inr (.inl 30)], n, D, (us (us s 3019 j2) 3020 j7), p, c)) rfl ?_
        have b82 : -2147483648 ≤ (s 3021) ∧ (s 3021) ≤ 2147483647 := hS 3021
        refine tt_cl (by omega) rfl (k_plain (Zi := Zi) (D := D) (s := (us (us s 3019 j2) 3020 j7)) (p := p) (c := c) (by omega) (bS_us (bS_us hS (show -2147483648 ≤ j2 ∧ j2 ≤ 2147483647 by omega)) (show -2147483648 ≤ j7 ∧ j7 ≤ 2147483647 by omega)) hC (s 3021) j7 (by omega) (by omega)) ?_
        rintro _ _ ⟨r83, rfl, rfl, b84, k85⟩
        show tt Zi d 143 (281, [some (.inr (.inl 30)), some (.inr (.inl 46)), some (.inl bits), some (.inl nr), some (.inl top), some (.inl f_), none], [.inl r83, .inr (.inl 30)], n, D, (us (us s 3019 j2) 3020 j7), p, c) _
        replace k85 : r83 = if (s 3021) < j7 ∨ (s 3017) < (s 3021) then j7 else (s 3021) := k85
        subst k85
        show tt Zi d 143 (281, [some (.inr (.inl 30)), some (.inr (.inl 46)), some (.inl bits), some (.inl nr), some (.inl top), some (.inl f_), none], [.inl (if (s 3021) < j7 ∨ (s 3017) < (s 3021) then j7 else (s 3021)), .inr (.inl 30)], n, D, (us (us s 3019 j2) 3020 j7), p, c) _
        have b86 : 0 ≤ (s 3017) ∧ (s 3017) ≤ 65535 := hS 3017
        refine tt_k 1 (S' := (287, [some (.inr (.inl 30)), some (.inr (.inl 46)), some (.inl bits), some (.inl nr), some (.inl top), some (.inl f_), none], [.inl (if (s 3021) < j7 ∨ (s 3017) < (s 3021) then j7 else (s 3021)), .inr (.inl 30)], n, D, (us (us s 3019 j2) 3020 j7), p, c)) rfl ?_
        exact K13 (if (s 3021) < j7 ∨ (s 3017) < (s 3021) then j7 else (s 3021))  (by omega) (trivial)
    refine tz_ne (x := (c 46 (2 : Int).toNat)) rfl rfl (by omega) (fun h87 => ?_) (fun h87 => ?_)
    · show tt Zi d 143 (256, [some (.inr (.inl 30)), some (.inr (.inl 46)), some (.inl bits), some (.inl nr), some (.inl top), some (.inl f_), none], [.inr (.inl 30)], n, D, (us s 3019 j2), p, c) _
      refine tt_k 2 (S' := (258, [some (.inr (.inl 30)), some (.inr (.inl 46)), some (.inl bits), some (.inl nr), some (.inl top), some (.inl f_), none], [.inl 2, .inr (.inl 46), .inr (.inl 30)], n, D, (us s 3019 j2), p, c)) rfl ?_
      refine tt_ildv (i := 2) (v := (c 46 (2 : Int).toNat)) rfl rfl (by omega) rfl ?_
      show tt Zi d 143 (259, [some (.inr (.inl 30)), some (.inr (.inl 46)), some (.inl bits), some (.inl nr), some (.inl top), some (.inl f_), none], [.inl (c 46 (2 : Int).toNat), .inr (.inl 30)], n, D, (us s 3019 j2), p, c) _
      exact K8 (c 46 (2 : Int).toNat)  (by omega) (trivial)
    · show tt Zi d 143 (241, [some (.inr (.inl 30)), some (.inr (.inl 46)), some (.inl bits), some (.inl nr), some (.inl top), some (.inl f_), none], [.inr (.inl 30)], n, D, (us s 3019 j2), p, c) _
      refine tt_k 5 (S' := (250, [some (.inr (.inl 30)), some (.inr (.inl 46)), some (.inl bits), some (.inl nr), some (.inl top), some (.inl f_), none], [.inl j2, .inl (s 3020), .inr (.inl 30), .inr (.inl 30)], n, D, (us s 3019 j2), p, c)) rfl ?_
      have b88 : -2147483648 ≤ (s 3020) ∧ (s 3020) ≤ 2147483647 := hS 3020
      refine tt_cl (by omega) rfl (k_plain (Zi := Zi) (D := D) (s := (us s 3019 j2)) (p := p) (c := c) (by omega) (bS_us hS (show -2147483648 ≤ j2 ∧ j2 ≤ 2147483647 by omega)) hC (s 3020) j2 (by omega) (by omega)) ?_
      rintro _ _ ⟨r89, rfl, rfl, b90, k91⟩
      show tt Zi d 143 (253, [some (.inr (.inl 30)), some (.inr (.inl 46)), some (.inl bits), some (.inl nr), some (.inl top), some (.inl f_), none], [.inl r89, .inr (.inl 30)], n, D, (us s 3019 j2), p, c) _
      replace k91 : r89 = if (s 3020) < j2 ∨ (s 3017) < (s 3020) then j2 else (s 3020) := k91
      subst k91
      show tt Zi d 143 (253, [some (.inr (.inl 30)), some (.inr (.inl 46)), some (.inl bits), some (.inl nr), some (.inl top), some (.inl f_), none], [.inl (if (s 3020) < j2 ∨ (s 3017) < (s 3020) then j2 else (s 3020)), .inr (.inl 30)], n, D, (us s 3019 j2), p, c) _
      have b92 : 0 ≤ (s 3017) ∧ (s 3017) ≤ 65535 := hS 3017
      refine tt_k 1 (S' := (259, [some (.inr (.inl 30)), some (.inr (.inl 46)), some (.inl bits), some (.inl nr), some (.inl top), some (.inl f_), none], [.inl (if (s 3020) < j2 ∨ (s 3017) < (s 3020) then j2 else (s 3020)), .inr (.inl 30)], n, D, (us s 3019 j2), p, c)) rfl ?_
      exact K8 (if (s 3020) < j2 ∨ (s 3017) < (s 3020) then j2 else (s 3020))  (by omega) (trivial)
  refine tz_ne (x := (c 46 (1 : Int).toNat)) rfl rfl (by omega) (fun h93 => ?_) (fun h93 => ?_)
  · show tt Zi d 143 (228, [some (.inr (.inl 30)), some (.inr (.inl 46)), some (.inl bits), some (.inl nr), some (.inl top), some (.inl f_), none], [.inr (.inl 30)], n, D, s, p, c) _
    refine tt_k 2 (S' := (230, [some (.inr (.inl 30)), some (.inr (.inl 46)), some (.inl bits), some (.inl nr), some (.inl top), some (.inl f_), none], [.inl 1, .inr (.inl 46), .inr (.inl 30)], n, D, s, p, c)) rfl ?_
    refine tt_ildv (i := 1) (v := (c 46 (1 : Int).toNat)) rfl rfl (by omega) rfl ?_
    show tt Zi d 143 (231, [some (.inr (.inl 30)), some (.inr (.inl 46)), some (.inl bits), some (.inl nr), some (.inl top), some (.inl f_), none], [.inl (c 46 (1 : Int).toNat), .inr (.inl 30)], n, D, s, p, c) _
    exact K3 (c 46 (1 : Int).toNat)  (by omega) (trivial)
  · show tt Zi d 143 (211, [some (.inr (.inl 30)), some (.inr (.inl 46)), some (.inl bits), some (.inl nr), some (.inl top), some (.inl f_), none], [.inr (.inl 30)], n, D, s, p, c) _
    refine tt_k 7 (S' := (222, [some (.inr (.inl 30)), some (.inr (.inl 46)), some (.inl bits), some (.inl nr), some (.inl top), some (.inl f_), none], [.inl ((s 3018) + 1), .inl (s 3019), .inr (.inl 30), .inr (.inl 30)], n, D, s, p, c)) rfl ?_
    have b95 : -2147483648 ≤ (s 3018) ∧ (s 3018) ≤ 2147483647 := hS 3018
    refine tt_wm (x := ((s 3018) + 1)) ?_
    intro v94 b96 w97
    show tt Zi d 143 (222, [some (.inr (.inl 30)), some (.inr (.inl 46)), some (.inl bits), some (.inl nr), some (.inl top), some (.inl f_), none], [.inl v94, .inl (s 3019), .inr (.inl 30), .inr (.inl 30)], n, D, s, p, c) _
    have b98 : -2147483648 ≤ (s 3019) ∧ (s 3019) ≤ 2147483647 := hS 3019
    refine tt_cl (by omega) rfl (k_plain (Zi := Zi) (D := D) (s := s) (p := p) (c := c) (by omega) hS hC (s 3019) v94 (by omega) (by omega)) ?_
    rintro _ _ ⟨r99, rfl, rfl, b100, k101⟩
    show tt Zi d 143 (225, [some (.inr (.inl 30)), some (.inr (.inl 46)), some (.inl bits), some (.inl nr), some (.inl top), some (.inl f_), none], [.inl r99, .inr (.inl 30)], n, D, s, p, c) _
    replace k101 : r99 = if (s 3019) < v94 ∨ (s 3017) < (s 3019) then v94 else (s 3019) := k101
    subst k101
    show tt Zi d 143 (225, [some (.inr (.inl 30)), some (.inr (.inl 46)), some (.inl bits), some (.inl nr), some (.inl top), some (.inl f_), none], [.inl (if (s 3019) < v94 ∨ (s 3017) < (s 3019) then v94 else (s 3019)), .inr (.inl 30)], n, D, s, p, c) _
    have b102 : 0 ≤ (s 3017) ∧ (s 3017) ≤ 65535 := hS 3017
    refine tt_k 1 (S' := (231, [some (.inr (.inl 30)), some (.inr (.inl 46)), some (.inl bits), some (.inl nr), some (.inl top), some (.inl f_), none], [.inl (if (s 3019) < v94 ∨ (s 3017) < (s 3019) then v94 else (s 3019)), .inr (.inl 30)], n, D, s, p, c)) rfl ?_
    exact K3 (if (s 3019) < v94 ∨ (s 3017) < (s 3019) then v94 else (s 3019))  (by omega) (trivial)
set_option maxRecDepth 100000 in
set_option maxHeartbeats 4000000 in
theorem k_measR {Zi : Nat → Option (Nat × (Nat → Int))} {d n : Nat} {D : Nat → Nat × Nat} {s : Nat → Int} {p : Nat → Nat} {c : Nat → Nat → Int} (hd : 2 ≤ d) (hS : bS s) (hC : bC D c) (bits : Int) (nr : Int) (b_bits : 2 ≤ bits ∧ bits ≤ 16) (b_nr : -2147483648 ≤ nr ∧ nr ≤ 2147483647) : tt Zi d 143 (0, [some (.inr (.inl 30)), some (.inr (.inl 46)), some (.inl bits), some (.inl nr), none, none, none], [], n, D, s, p, c) (fun R H => ∃ (s' : Nat → Int) (r : Int), R = .inl (some (.inl r)) ∧ H = (n, D, s', p, c) ∧ bS s' ∧ fr s s' [3017, 3018, 3019, 3020, 3021, 3022, 3023, 3024, 3025, 3026] ∧ (0 ≤ r ∧ r ≤ 1) ∧ (r = 1 → mv s')) := by
  have e1 : 4 ≤ (mi_shl 1 bits) ∧ (mi_shl 1 bits) ≤ 65536 := mi_shl1b 2 16 (by omega) (by omega) (by decide)
  refine tt_k 9 (S' := (10, [some (.inr (.inl 30)), some (.inr (.inl 46)), some (.inl bits), some (.inl nr), some (.inl ((mi_shl 1 bits) - 1)), none, none], [.inl 0, .inr (.inl 46), .inr (.inl 30)], n, D, s, p, c)) rfl ?_
  refine tt_ildv (i := 0) (v := (c 46 (0 : Int).toNat)) rfl rfl (by omega) rfl ?_
  show tt Zi d 143 (11, [some (.inr (.inl 30)), some (.inr (.inl 46)), some (.inl bits), some (.inl nr), some (.inl ((mi_shl 1 bits) - 1)), none, none], [.inl (c 46 (0 : Int).toNat), .inr (.inl 30)], n, D, s, p, c) _
  have b2 : 0 ≤ (c 46 (0 : Int).toNat) ∧ (c 46 (0 : Int).toNat) ≤ 65535 := hC 46 _
  have K4 : ∀ (j3 : Int) , (1 ≤ j3 ∧ j3 ≤ 65535) → (True) → tt Zi d 143 (22, [some (.inr (.inl 30)), some (.inr (.inl 46)), some (.inl bits), some (.inl nr), some (.inl ((mi_shl 1 bits) - 1)), none, none], [.inl j3, .inr (.inl 30)], n, D, s, p, c) (fun R H => ∃ (s' : Nat → Int) (r : Int), R = .inl (some (.inl r)) ∧ H = (n, D, s', p, c) ∧ bS s' ∧ fr s s' [3017, 3018, 3019, 3020, 3021, 3022, 3023, 3024, 3025, 3026] ∧ (0 ≤ r ∧ r ≤ 1) ∧ (r = 1 → mv s')) := by
    intro j3 b6 hj5
    refine tt_k 7 (S' := (33, [some (.inr (.inl 30)), some (.inr (.inl 46)), some (.inl bits), some (.inl nr), some (.inl ((mi_shl 1 bits) - 1)), none, none], [.inl 4, .inr (.inl 46), .inr (.inl 30)], n, D, (us (us s 3017 j3) 3018 nr), p, c)) rfl ?_
    refine tt_ildv (i := 4) (v := (c 46 (4 : Int).toNat)) rfl rfl (by omega) rfl ?_
    show tt Zi d 143 (34, [some (.inr (.inl 30)), some (.inr (.inl 46)), some (.inl bits), some (.inl nr), some (.inl ((mi_shl 1 bits) - 1)), none, none], [.inl (c 46 (4 : Int).toNat), .inr (.inl 30)], n, D, (us (us s 3017 j3) 3018 nr), p, c) _
    have b7 : 0 ≤ (c 46 (4 : Int).toNat) ∧ (c 46 (4 : Int).toNat) ≤ 65535 := hC 46 _
    have K9 : ∀ (j8 : Int) , (1 ≤ j8 ∧ j8 ≤ 65535) → (True) → tt Zi d 143 (45, [some (.inr (.inl 30)), some (.inr (.inl 46)), some (.inl bits), some (.inl nr), some (.inl ((mi_shl 1 bits) - 1)), none, none], [.inl j8, .inr (.inl 30)], n, D, (us (us s 3017 j3) 3018 nr), p, c) (fun R H => ∃ (s' : Nat → Int) (r : Int), R = .inl (some (.inl r)) ∧ H = (n, D, s', p, c) ∧ bS s' ∧ fr s s' [3017, 3018, 3019, 3020, 3021, 3022, 3023, 3024, 3025, 3026] ∧ (0 ≤ r ∧ r ≤ 1) ∧ (r = 1 → mv s')) := by
      intro j8 b11 hj10
      refine tt_k 4 (S' := (55, [some (.inr (.inl 30)), some (.inr (.inl 46)), some (.inl bits), some (.inl nr), some (.inl ((mi_shl 1 bits) - 1)), none, none], [.inl 128, .inl j3], n, D, (us (us (us s 3017 j3) 3018 nr) 3022 j8), p, c)) rfl ?_
      refine tb_ge (x := j3) (y := 128) rfl rfl (by omega) (fun h12 => ?_) (fun h12 => ?_)
      · show tt Zi d 143 (133, [some (.inr (.inl 30)), some (.inr (.inl 46)), some (.inl bits), some (.inl nr), some (.inl ((mi_shl 1 bits) - 1)), none, none], [], n, D, (us (us (us s 3017 j3) 3018 nr) 3022 j8), p, c) _
        refine tt_k 3 (S' := (140, [some (.inr (.inl 30)), some (.inr (.inl 46)), some (.inl bits), some (.inl nr), some (.inl ((mi_shl 1 bits) - 1)), none, none], [.inl 4095, .inl j3], n, D, (us (us (us s 3017 j3) 3018 nr) 3022 j8), p, c)) rfl ?_
        refine tt_cl (by omega) rfl (k_less (Zi := Zi) (D := D) (s := (us (us (us s 3017 j3) 3018 nr) 3022 j8)) (p := p) (c := c) (by omega) (bS_us (bS_us (bS_us hS (show 0 ≤ j3 ∧ j3 ≤ 65535 by omega)) (show -2147483648 ≤ nr ∧ nr ≤ 2147483647 by omega)) (show 0 ≤ j8 ∧ j8 ≤ 65535 by omega)) hC j3 4095 (by omega) (by omega)) ?_
        rintro _ _ ⟨r13, rfl, rfl, b14, k15⟩
        show tt Zi d 143 (143, [some (.inr (.inl 30)), some (.inr (.inl 46)), some (.inl bits), some (.inl nr), some (.inl ((mi_shl 1 bits) - 1)), none, none], [.inl r13], n, D, (us (us (us s 3017 j3) 3018 nr) 3022 j8), p, c) _
        replace k15 : r13 = min j3 4095 := k15
        subst k15
        show tt Zi d 143 (143, [some (.inr (.inl 30)), some (.inr (.inl 46)), some (.inl bits), some (.inl nr), some (.inl ((mi_shl 1 bits) - 1)), none, none], [.inl (min j3 4095)], n, D, (us (us (us s 3017 j3) 3018 nr) 3022 j8), p, c) _
        refine tt_k 3 (S' := (150, [some (.inr (.inl 30)), some (.inr (.inl 46)), some (.inl bits), some (.inl nr), some (.inl ((mi_shl 1 bits) - 1)), none, none], [.inl 256, .inl ((min j3 4095) + 128)], n, D, (us (us (us s 3017 j3) 3018 nr) 3022 j8), p, c)) rfl ?_
        refine tt_div (x := ((min j3 4095) + 128)) (y := 256) rfl (by omega) ?_
        show tt Zi d 143 (151, [some (.inr (.inl 30)), some (.inr (.inl 46)), some (.inl bits), some (.inl nr), some (.inl ((mi_shl 1 bits) - 1)), none, none], [.inl ((Int.tdiv ((min j3 4095) + 128) 256))], n, D, (us (us (us s 3017 j3) 3018 nr) 3022 j8), p, c) _
        have b16 := tdv_bd (x := ((min j3 4095) + 128)) (y := 256) (a := 2147483775) (by omega) (by omega) (by omega)
        refine tt_k 10 (S' := (165, [some (.inr (.inl 30)), some (.inr (.inl 46)), some (.inl bits), some (.inl nr), some (.inl ((mi_shl 1 bits) - 1)), some (.inl ((Int.tdiv ((min j3 4095) + 128) 256))), none], [.inl ((((Int.tdiv ((min j3 4095) + 128) 256) + 2) + (3 * nr))), .inr (.inl 30)], n, D, (us (us (us s 3017 j3) 3018 nr) 3022 j8), p, c)) rfl ?_
        refine tt_wm (x := (((Int.tdiv ((min j3 4095) + 128) 256) + 2) + (3 * nr))) ?_
        intro v17 b18 w19
        show tt Zi d 143 (165, [some (.inr (.inl 30)), some (.inr (.inl 46)), some (.inl bits), some (.inl nr), some (.inl ((mi_shl 1 bits) - 1)), some (.inl ((Int.tdiv ((min j3 4095) + 128) 256))), none], [.inl v17, .inr (.inl 30)], n, D, (us (us (us s 3017 j3) 3018 nr) 3022 j8), p, c) _
        refine tt_k 12 (S' := (182, [some (.inr (.inl 30)), some (.inr (.inl 46)), some (.inl bits), some (.inl nr), some (.inl ((mi_shl 1 bits) - 1)), some (.inl ((Int.tdiv ((min j3 4095) + 128) 256))), none], [.inl ((((4 * (Int.tdiv ((min j3 4095) + 128) 256)) + 3) + (5 * nr))), .inr (.inl 30)], n, D, (us (us (us (us s 3017 j3) 3018 nr) 3022 j8) 3019 v17), p, c)) rfl ?_
        refine tt_wm (x := (((4 * (Int.tdiv ((min j3 4095) + 128) 256)) + 3) + (5 * nr))) ?_
        intro v20 b21 w22
        show tt Zi d 143 (182, [some (.inr (.inl 30)), some (.inr (.inl 46)), some (.inl bits), some (.inl nr), some (.inl ((mi_shl 1 bits) - 1)), some (.inl ((Int.tdiv ((min j3 4095) + 128) 256))), none], [.inl v20, .inr (.inl 30)], n, D, (us (us (us (us s 3017 j3) 3018 nr) 3022 j8) 3019 v17), p, c) _
        refine tt_k 12 (S' := (201, [some (.inr (.inl 30)), some (.inr (.inl 46)), some (.inl bits), some (.inl nr), some (.inl ((mi_shl 1 bits) - 1)), some (.inl ((Int.tdiv ((min j3 4095) + 128) 256))), none], [.inl ((((17 * (Int.tdiv ((min j3 4095) + 128) 256)) + 4) + (7 * nr))), .inr (.inl 30)], n, D, (us (us (us (us (us s 3017 j3) 3018 nr) 3022 j8) 3019 v17) 3020 v20), p, c)) rfl ?_
        refine tt_wm (x := (((17 * (Int.tdiv ((min j3 4095) + 128) 256)) + 4) + (7 * nr))) ?_
        intro v23 b24 w25
        show tt Zi d 143 (201, [some (.inr (.inl 30)), some (.inr (.inl 46)), some (.inl bits), some (.inl nr), some (.inl ((mi_shl 1 bits) - 1)), some (.inl ((Int.tdiv ((min j3 4095) + 128) 256))), none], [.inl v23, .inr (.inl 30)], n, D, (us (us (us (us (us s 3017 j3) 3018 nr) 3022 j8) 3019 v17) 3020 v20), p, c) _
        refine tt_k 1 (S' := (204, [some (.inr (.inl 30)), some (.inr (.inl 46)), some (.inl bits), some (.inl nr), some (.inl ((mi_shl 1 bits) - 1)), some (.inl ((Int.tdiv ((min j3 4095) + 128) 256))), none], [], n, D, (us (us (us (us (us (us s 3017 j3) 3018 nr) 3022 j8) 3019 v17) 3020 v20) 3021 v23), p, c)) rfl ?_
        refine tt_mono (k_measCR (Zi := Zi) (D := D) (s := (us (us (us (us (us (us s 3017 j3) 3018 nr) 3022 j8) 3019 v17) 3020 v20) 3021 v23)) (p := p) (c := c) (by omega) (bS_us (bS_us (bS_us (bS_us (bS_us (bS_us hS (show 0 ≤ j3 ∧ j3 ≤ 65535 by omega)) (show -2147483648 ≤ nr ∧ nr ≤ 2147483647 by omega)) (show 0 ≤ j8 ∧ j8 ≤ 65535 by omega)) (show -2147483648 ≤ v17 ∧ v17 ≤ 2147483647 by omega)) (show -2147483648 ≤ v20 ∧ v20 ≤ 2147483647 by omega)) (show -2147483648 ≤ v23 ∧ v23 ≤ 2147483647 by omega)) hC bits nr ((mi_shl 1 bits) - 1) ((Int.tdiv ((min j3 4095) + 128) 256)) (by omega) (by omega) (by omega) (show nr = nr by omega)) ?_
        rintro _ _ ⟨s26, r27, rfl, rfl, hS26, f28, b29, k30⟩
        exact ⟨s26, r27, rfl, rfl, hS26, (fr_tr (fr_us (by decide) (fr_us (by decide) (fr_us (by decide) (fr_us (by decide) (fr_us (by decide) (fr_us (by decide) fr_rf)))))) f28 (by decide)), by omega, k30⟩
      · show tt Zi d 143 (58, [some (.inr (.inl 30)), some (.inr (.inl 46)), some (.inl bits), some (.inl nr), some (.inl ((mi_shl 1 bits) - 1)), none, none], [], n, D, (us (us (us s 3017 j3) 3018 nr) 3022 j8), p, c) _
        refine tt_k 5 (S' := (67, [some (.inr (.inl 30)), some (.inr (.inl 46)), some (.inl bits), some (.inl nr), some (.inl ((mi_shl 1 bits) - 1)), none, none], [.inl (j3 + 1), .inl 256], n, D, (us (us (us s 3017 j3) 3018 nr) 3022 j8), p, c)) rfl ?_
        refine tt_dvp (x := 256) (y := (j3 + 1)) rfl (by omega) ?_
        show tt Zi d 143 (68, [some (.inr (.inl 30)), some (.inr (.inl 46)), some (.inl bits), some (.inl nr), some (.inl ((mi_shl 1 bits) - 1)), none, none], [.inl (256 / (j3 + 1))], n, D, (us (us (us s 3017 j3) 3018 nr) 3022 j8), p, c) _
        have b31 : 0 ≤ (256 / (j3 + 1)) ∧ (256 / (j3 + 1)) ≤ 256 := td_le (by omega) (by omega)
        have b32 : 1 ≤ (256 / (j3 + 1)) := dv_ge1 (by omega) (by omega)
        refine tt_k 5 (S' := (75, [some (.inr (.inl 30)), some (.inr (.inl 46)), some (.inl bits), some (.inl nr), some (.inl ((mi_shl 1 bits) - 1)), some (.inl (256 / (j3 + 1))), none], [.inl (256 / (j3 + 1)), .inl 3, .inl 2, .inr (.inl 30)], n, D, (us (us (us s 3017 j3) 3018 nr) 3022 j8), p, c)) rfl ?_
        refine tt_dvp (x := 3) (y := (256 / (j3 + 1))) rfl (by omega) ?_
        show tt Zi d 143 (76, [some (.inr (.inl 30)), some (.inr (.inl 46)), some (.inl bits), some (.inl nr), some (.inl ((mi_shl 1 bits) - 1)), some (.inl (256 / (j3 + 1))), none], [.inl ((3 / (256 / (j3 + 1)))), .inl 2, .inr (.inl 30)], n, D, (us (us (us s 3017 j3) 3018 nr) 3022 j8), p, c) _
        have b33 : 0 ≤ (3 / (256 / (j3 + 1))) ∧ (3 / (256 / (j3 + 1))) ≤ 3 := td_le (by omega) (by omega)
        refine tt_k 5 (S' := (83, [some (.inr (.inl 30)), some (.inr (.inl 46)), some (.inl bits), some (.inl nr), some (.inl ((mi_shl 1 bits) - 1)), some (.inl (256 / (j3 + 1))), none], [.inl (((3 / (256 / (j3 + 1))) + (3 * nr))), .inl 2, .inr (.inl 30)], n, D, (us (us (us s 3017 j3) 3018 nr) 3022 j8), p, c)) rfl ?_
        refine tt_wm (x := ((3 / (256 / (j3 + 1))) + (3 * nr))) ?_
        intro v34 b35 w36
        show tt Zi d 143 (83, [some (.inr (.inl 30)), some (.inr (.inl 46)), some (.inl bits), some (.inl nr), some (.inl ((mi_shl 1 bits) - 1)), some (.inl (256 / (j3 + 1))), none], [.inl v34, .inl 2, .inr (.inl 30)], n, D, (us (us (us s 3017 j3) 3018 nr) 3022 j8), p, c) _
        refine tt_cl (by omega) rfl (k_more (Zi := Zi) (D := D) (s := (us (us (us s 3017 j3) 3018 nr) 3022 j8)) (p := p) (c := c) (by omega) (bS_us (bS_us (bS_us hS (show 0 ≤ j3 ∧ j3 ≤ 65535 by omega)) (show -2147483648 ≤ nr ∧ nr ≤ 2147483647 by omega)) (show 0 ≤ j8 ∧ j8 ≤ 65535 by omega)) hC 2 v34 (by omega) (by omega)) ?_
        rintro _ _ ⟨r37, rfl, rfl, b38, k39⟩
        show tt Zi d 143 (86, [some (.inr (.inl 30)), some (.inr (.inl 46)), some (.inl bits), some (.inl nr), some (.inl ((mi_shl 1 bits) - 1)), some (.inl (256 / (j3 + 1))), none], [.inl r37, .inr (.inl 30)], n, D, (us (us (us s 3017 j3) 3018 nr) 3022 j8), p, c) _
        replace k39 : r37 = max 2 v34 := k39
        subst k39
        show tt Zi d 143 (86, [some (.inr (.inl 30)), some (.inr (.inl 46)), some (.inl bits), some (.inl nr), some (.inl ((mi_shl 1 bits) - 1)), some (.inl (256 / (j3 + 1))), none], [.inl (max 2 v34), .inr (.inl 30)], n, D, (us (us (us s 3017 j3) 3018 nr) 3022 j8), p, c) _
        refine tt_k 5 (S' := (95, [some (.inr (.inl 30)), some (.inr (.inl 46)), some (.inl bits), some (.inl nr), some (.inl ((mi_shl 1 bits) - 1)), some (.inl (256 / (j3 + 1))), none], [.inl (256 / (j3 + 1)), .inl 7, .inl 3, .inr (.inl 30)], n, D, (us (us (us (us s 3017 j3) 3018 nr) 3022 j8) 3019 (max 2 v34)), p, c)) rfl ?_
        refine tt_dvp (x := 7) (y := (256 / (j3 + 1))) rfl (by omega) ?_
        show tt Zi d 143 (96, [some (.inr (.inl 30)), some (.inr (.inl 46)), some (.inl bits), some (.inl nr), some (.inl ((mi_shl 1 bits) - 1)), some (.inl (256 / (j3 + 1))), none], [.inl ((7 / (256 / (j3 + 1)))), .inl 3, .inr (.inl 30)], n, D, (us (us (us (us s 3017 j3) 3018 nr) 3022 j8) 3019 (max 2 v34)), p, c) _
        have b40 : 0 ≤ (7 / (256 / (j3 + 1))) ∧ (7 / (256 / (j3 + 1))) ≤ 7 := td_le (by omega) (by omega)
        refine tt_k 5 (S' := (103, [some (.inr (.inl 30)), some (.inr (.inl 46)), some (.inl bits), some (.inl nr), some (.inl ((mi_shl 1 bits) - 1)), some (.inl (256 / (j3 + 1))), none], [.inl (((7 / (256 / (j3 + 1))) + (5 * nr))), .inl 3, .inr (.inl 30)], n, D, (us (us (us (us s 3017 j3) 3018 nr) 3022 j8) 3019 (max 2 v34)), p, c)) rfl ?_
        refine tt_wm (x := ((7 / (256 / (j3 + 1))) + (5 * nr))) ?_
        intro v41 b42 w43
        show tt Zi d 143 (103, [some (.inr (.inl 30)), some (.inr (.inl 46)), some (.inl bits), some (.inl nr), some (.inl ((mi_shl 1 bits) - 1)), some (.inl (256 / (j3 + 1))), none], [.inl v41, .inl 3, .inr (.inl 30)], n, D, (us (us (us (us s 3017 j3) 3018 nr) 3022 j8) 3019 (max 2 v34)), p, c) _
        refine tt_cl (by omega) rfl (k_more (Zi := Zi) (D := D) (s := (us (us (us (us s 3017 j3) 3018 nr) 3022 j8) 3019 (max 2 v34))) (p := p) (c := c) (by omega) (bS_us (bS_us (bS_us (bS_us hS (show 0 ≤ j3 ∧ j3 ≤ 65535 by omega)) (show -2147483648 ≤ nr ∧ nr ≤ 2147483647 by omega)) (show 0 ≤ j8 ∧ j8 ≤ 65535 by omega)) (show -2147483648 ≤ (max 2 v34) ∧ (max 2 v34) ≤ 2147483647 by omega)) hC 3 v41 (by omega) (by omega)) ?_
        rintro _ _ ⟨r44, rfl, rfl, b45, k46⟩
        show tt Zi d 143 (106, [some (.inr (.inl 30)), some (.inr (.inl 46)), some (.inl bits), some (.inl nr), some (.inl ((mi_shl 1 bits) - 1)), some (.inl (256 / (j3 + 1))), none], [.inl r44, .inr (.inl 30)], n, D, (us (us (us (us s 3017 j3) 3018 nr) 3022 j8) 3019 (max 2 v34)), p, c) _
        replace k46 : r44 = max 3 v41 := k46
        subst k46
        show tt Zi d 143 (106, [some (.inr (.inl 30)), some (.inr (.inl 46)), some (.inl bits), some (.inl nr), some (.inl ((mi_shl 1 bits) - 1)), some (.inl (256 / (j3 + 1))), none], [.inl (max 3 v41), .inr (.inl 30)], n, D, (us (us (us (us s 3017 j3) 3018 nr) 3022 j8) 3019 (max 2 v34)), p, c) _
        refine tt_k 5 (S' := (115, [some (.inr (.inl 30)), some (.inr (.inl 46)), some (.inl bits), some (.inl nr), some (.inl ((mi_shl 1 bits) - 1)), some (.inl (256 / (j3 + 1))), none], [.inl (256 / (j3 + 1)), .inl 21, .inl 4, .inr (.inl 30)], n, D, (us (us (us (us (us s 3017 j3) 3018 nr) 3022 j8) 3019 (max 2 v34)) 3020 (max 3 v41)), p, c)) rfl ?_
        refine tt_dvp (x := 21) (y := (256 / (j3 + 1))) rfl (by omega) ?_
        show tt Zi d 143 (116, [some (.inr (.inl 30)), some (.inr (.inl 46)), some (.inl bits), some (.inl nr), some (.inl ((mi_shl 1 bits) - 1)), some (.inl (256 / (j3 + 1))), none], [.inl ((21 / (256 / (j3 + 1)))), .inl 4, .inr (.inl 30)], n, D, (us (us (us (us (us s 3017 j3) 3018 nr) 3022 j8) 3019 (max 2 v34)) 3020 (max 3 v41)), p, c) _
        have b47 : 0 ≤ (21 / (256 / (j3 + 1))) ∧ (21 / (256 / (j3 + 1))) ≤ 21 := td_le (by omega) (by omega)
        refine tt_k 5 (S' := (124, [some (.inr (.inl 30)), some (.inr (.inl 46)), some (.inl bits), some (.inl nr), some (.inl ((mi_shl 1 bits) - 1)), some (.inl (256 / (j3 + 1))), none], [.inl (((21 / (256 / (j3 + 1))) + (7 * nr))), .inl 4, .inr (.inl 30)], n, D, (us (us (us (us (us s 3017 j3) 3018 nr) 3022 j8) 3019 (max 2 v34)) 3020 (max 3 v41)), p, c)) rfl ?_
        refine tt_wm (x := ((21 / (256 / (j3 + 1))) + (7 * nr))) ?_
        intro v48 b49 w50
        show tt Zi d 143 (124, [some (.inr (.inl 30)), some (.inr (.inl 46)), some (.inl bits), some (.inl nr), some (.inl ((mi_shl 1 bits) - 1)), some (.inl (256 / (j3 + 1))), none], [.inl v48, .inl 4, .inr (.inl 30)], n, D, (us (us (us (us (us s 3017 j3) 3018 nr) 3022 j8) 3019 (max 2 v34)) 3020 (max 3 v41)), p, c) _
        refine tt_cl (by omega) rfl (k_more (Zi := Zi) (D := D) (s := (us (us (us (us (us s 3017 j3) 3018 nr) 3022 j8) 3019 (max 2 v34)) 3020 (max 3 v41))) (p := p) (c := c) (by omega) (bS_us (bS_us (bS_us (bS_us (bS_us hS (show 0 ≤ j3 ∧ j3 ≤ 65535 by omega)) (show -2147483648 ≤ nr ∧ nr ≤ 2147483647 by omega)) (show 0 ≤ j8 ∧ j8 ≤ 65535 by omega)) (show -2147483648 ≤ (max 2 v34) ∧ (max 2 v34) ≤ 2147483647 by omega)) (show -2147483648 ≤ (max 3 v41) ∧ (max 3 v41) ≤ 2147483647 by omega)) hC 4 v48 (by omega) (by omega)) ?_
        rintro _ _ ⟨r51, rfl, rfl, b52, k53⟩
        show tt Zi d 143 (127, [some (.inr (.inl 30)), some (.inr (.inl 46)), some (.inl bits), some (.inl nr), some (.inl ((mi_shl 1 bits) - 1)), some (.inl (256 / (j3 + 1))), none], [.inl r51, .inr (.inl 30)], n, D, (us (us (us (us (us s 3017 j3) 3018 nr) 3022 j8) 3019 (max 2 v34)) 3020 (max 3 v41)), p, c) _
        replace k53 : r51 = max 4 v48 := k53
        subst k53
        show tt Zi d 143 (127, [some (.inr (.inl 30)), some (.inr (.inl 46)), some (.inl bits), some (.inl nr), some (.inl ((mi_shl 1 bits) - 1)), some (.inl (256 / (j3 + 1))), none], [.inl (max 4 v48), .inr (.inl 30)], n, D, (us (us (us (us (us s 3017 j3) 3018 nr) 3022 j8) 3019 (max 2 v34)) 3020 (max 3 v41)), p, c) _
        refine tt_k 2 (S' := (204, [some (.inr (.inl 30)), some (.inr (.inl 46)), some (.inl bits), some (.inl nr), some (.inl ((mi_shl 1 bits) - 1)), some (.inl (256 / (j3 + 1))), none], [], n, D, (us (us (us (us (us (us s 3017 j3) 3018 nr) 3022 j8) 3019 (max 2 v34)) 3020 (max 3 v41)) 3021 (max 4 v48)), p, c)) rfl ?_
        refine tt_mono (k_measCR (Zi := Zi) (D := D) (s := (us (us (us (us (us (us s 3017 j3) 3018 nr) 3022 j8) 3019 (max 2 v34)) 3020 (max 3 v41)) 3021 (max 4 v48))) (p := p) (c := c) (by omega) (bS_us (bS_us (bS_us (bS_us (bS_us (bS_us hS (show 0 ≤ j3 ∧ j3 ≤ 65535 by omega)) (show -2147483648 ≤ nr ∧ nr ≤ 2147483647 by omega)) (show 0 ≤ j8 ∧ j8 ≤ 65535 by omega)) (show -2147483648 ≤ (max 2 v34) ∧ (max 2 v34) ≤ 2147483647 by omega)) (show -2147483648 ≤ (max 3 v41) ∧ (max 3 v41) ≤ 2147483647 by omega)) (show -2147483648 ≤ (max 4 v48) ∧ (max 4 v48) ≤ 2147483647 by omega)) hC bits nr ((mi_shl 1 bits) - 1) (256 / (j3 + 1)) (by omega) (by omega) (by omega) (show nr = nr by omega)) ?_
        rintro _ _ ⟨s54, r55, rfl, rfl, hS54, f56, b57, k58⟩
        exact ⟨s54, r55, rfl, rfl, hS54, (fr_tr (fr_us (by decide) (fr_us (by decide) (fr_us (by decide) (fr_us (by decide) (fr_us (by decide) (fr_us (by decide) fr_rf)))))) f56 (by decide)), by omega, k58⟩
    refine tz_ne (x := (c 46 (4 : Int).toNat)) rfl rfl (by omega) (fun h59 => ?_) (fun h59 => ?_)
    · show tt Zi d 143 (42, [some (.inr (.inl 30)), some (.inr (.inl 46)), some (.inl bits), some (.inl nr), some (.inl ((mi_shl 1 bits) - 1)), none, none], [.inr (.inl 30)], n, D, (us (us s 3017 j3) 3018 nr), p, c) _
      refine tt_k 2 (S' := (44, [some (.inr (.inl 30)), some (.inr (.inl 46)), some (.inl bits), some (.inl nr), some (.inl ((mi_shl 1 bits) - 1)), none, none], [.inl 4, .inr (.inl 46), .inr (.inl 30)], n, D, (us (us s 3017 j3) 3018 nr), p, c)) rfl ?_
      refine tt_ildv (i := 4) (v := (c 46 (4 : Int).toNat)) rfl rfl (by omega) rfl ?_
      show tt Zi d 143 (45, [some (.inr (.inl 30)), some (.inr (.inl 46)), some (.inl bits), some (.inl nr), some (.inl ((mi_shl 1 bits) - 1)), none, none], [.inl (c 46 (4 : Int).toNat), .inr (.inl 30)], n, D, (us (us s 3017 j3) 3018 nr), p, c) _
      exact K9 (c 46 (4 : Int).toNat)  (by omega) (trivial)
    · show tt Zi d 143 (37, [some (.inr (.inl 30)), some (.inr (.inl 46)), some (.inl bits), some (.inl nr), some (.inl ((mi_shl 1 bits) - 1)), none, none], [.inr (.inl 30)], n, D, (us (us s 3017 j3) 3018 nr), p, c) _
      refine tt_k 2 (S' := (45, [some (.inr (.inl 30)), some (.inr (.inl 46)), some (.inl bits), some (.inl nr), some (.inl ((mi_shl 1 bits) - 1)), none, none], [.inl 64, .inr (.inl 30)], n, D, (us (us s 3017 j3) 3018 nr), p, c)) rfl ?_
      exact K9 64  (by omega) (trivial)
  refine tz_ne (x := (c 46 (0 : Int).toNat)) rfl rfl (by omega) (fun h60 => ?_) (fun h60 => ?_)
  · show tt Zi d 143 (19, [some (.inr (.inl 30)), some (.inr (.inl 46)), some (.inl bits), some (.inl nr), some (.inl ((mi_shl 1 bits) - 1)), none, none], [.inr (.inl 30)], n, D, s, p, c) _
    refine tt_k 2 (S' := (21, [some (.inr (.inl 30)), some (.inr (.inl 46)), some (.inl bits), some (.inl nr), some (.inl ((mi_shl 1 bits) - 1)), none, none], [.inl 0, .inr (.inl 46), .inr (.inl 30)], n, D, s, p, c)) rfl ?_
    refine tt_ildv (i := 0) (v := (c 46 (0 : Int).toNat)) rfl rfl (by omega) rfl ?_
    show tt Zi d 143 (22, [some (.inr (.inl 30)), some (.inr (.inl 46)), some (.inl bits), some (.inl nr), some (.inl ((mi_shl 1 bits) - 1)), none, none], [.inl (c 46 (0 : Int).toNat), .inr (.inl 30)], n, D, s, p, c) _
    exact K4 (c 46 (0 : Int).toNat)  (by omega) (trivial)
  · show tt Zi d 143 (14, [some (.inr (.inl 30)), some (.inr (.inl 46)), some (.inl bits), some (.inl nr), some (.inl ((mi_shl 1 bits) - 1)), none, none], [.inr (.inl 30)], n, D, s, p, c) _
    refine tt_k 2 (S' := (22, [some (.inr (.inl 30)), some (.inr (.inl 46)), some (.inl bits), some (.inl nr), some (.inl ((mi_shl 1 bits) - 1)), none, none], [.inl ((mi_shl 1 bits) - 1), .inr (.inl 30)], n, D, s, p, c)) rfl ?_
    exact K4 ((mi_shl 1 bits) - 1)  (by omega) (trivial)

