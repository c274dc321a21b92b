/-! the reference reads a stop, a run -/
set_option maxRecDepth 100000 in
set_option maxHeartbeats 4000000 in
theorem k_stopR2 {Zi : Nat → Option (Nat × (Nat → Int))} {d n : Nat} {D : Nat → Nat × Nat} {s : Nat → Int} {p : Nat → Nat} {c : Nat → Nat → Int} (hd : 3 ≤ d) (hS : bS s) (hC : bC D c) (t : Int) (x : Int) (y : Int) (run : Int) (st : Int) (p_ : Int) (l6 : Int) (l7 : Int) (l8 : Int) (e : Int) (mm : Int) (l11 : Int) (l12 : Int) (b_x : 0 ≤ x ∧ x ≤ 63) (b_y : 0 ≤ y ∧ y ≤ 63) (b_run : 0 ≤ run ∧ run ≤ 65535) (b_st : 0 ≤ st ∧ st ≤ 1) (b_p_ : 365 ≤ p_ ∧ p_ ≤ 366) (b_e : -1073741824 ≤ e ∧ e ≤ 1073741824) (b_mm : 0 ≤ mm ∧ mm ≤ 1073741823) (hp0 : mv s) (hp1 : x < s 3037) (hp2 : 0 ≤ s 3045 ∧ s 3045 ≤ s 3017) (hp3 : pl s t c) (hp4 : 0 ≤ t ∧ t ≤ 4095) (hp5 : tb (s 3037) (s 3039) (s 3017) (c 44) x y) (hp6 : s 3050 = 0 → -(s 3024 / 2) ≤ e ∧ e ≤ (s 3024 - 1) / 2 ∧ mm ≤ s 3024) (hp7 : p_ = 365 + st) (hp8 : 0 ≤ s 3035 ∧ s 3035 ≤ 22) : tt Zi d 161 (368, [some (.inr (.inl 30)), some (.inl x), some (.inl y), some (.inl run), some (.inl st), some (.inl p_), some (.inl l6), some (.inl l7), some (.inl l8), some (.inl e), some (.inl mm), some (.inl l11), some (.inl l12)], [], n, D, s, p, c) (fun R H => ∃ (s' : Nat → Int) (c' : Nat → Nat → Int), R = .inl none ∧ H = (n, D, s', p, c') ∧ bS s' ∧ bC D c' ∧ fr s s' [3035] ∧ frc c c' [36, 37, 39, 44] ∧ (s 3050 = 0 → pl s' (t + 1) c') ∧ (s 3050 = 0 → tb (s 3037) (s 3039) (s 3017) (c' 44) (x + 1) y) ∧ (0 ≤ s' 3035 ∧ s' 3035 ≤ 22)) := by
  have mvx := mv_fx hp0
  have hi := hp3 (p_).toNat (by omega)
  have hb := pl_bd hp0 (by omega) hi
  have hb37 : c 37 (p_).toNat ≤ 1 + t := hi.2.2.2.2.2.1
  refine tt_k 2 (S' := (372, [some (.inr (.inl 30)), some (.inl x), some (.inl y), some (.inl run), some (.inl st), some (.inl p_), some (.inl l6), some (.inl l7), some (.inl l8), some (.inl e), some (.inl mm), some (.inl l11), some (.inl l12)], [.inl (s 3050)], n, D, s, p, c)) rfl ?_
  have b1 : 0 ≤ (s 3050) ∧ (s 3050) ≤ 8 := hS 3050
  refine tz_le (x := (s 3050)) rfl rfl (by omega) (fun h2 => ?_) (fun h2 => ?_)
  · show tt Zi d 161 (376, [some (.inr (.inl 30)), some (.inl x), some (.inl y), some (.inl run), some (.inl st), some (.inl p_), some (.inl l6), some (.inl l7), some (.inl l8), some (.inl e), some (.inl mm), some (.inl l11), some (.inl l12)], [], n, D, s, p, c) _
    refine tt_k 12 (S' := (394, [some (.inr (.inl 30)), some (.inl x), some (.inl y), some (.inl run), some (.inl st), some (.inl p_), some (.inl l6), some (.inl l7), some (.inl l8), some (.inl e), some (.inl mm), some (.inl l11), some (.inl l12)], [.inl e, .inr (.inl 30), .inl ((((s 3039) + (64 * y)) + x)), .inr (.inl 44)], n, D, s, p, c)) rfl ?_
    have hz := hp6 (by omega)
    have b3 : -65535 ≤ (s 3045) ∧ (s 3045) ≤ 131070 := hS 3045
    refine tt_cl (by omega) rfl (k_sampleOf (Zi := Zi) (D := D) (s := s) (p := p) (c := c) (by omega) hS hC e (by omega) hp0 (show -65535 ≤ (s 3045) ∧ (s 3045) ≤ 131070 by omega)) ?_
    rintro _ _ ⟨r4, rfl, rfl, b5, k6⟩
    show tt Zi d 161 (397, [some (.inr (.inl 30)), some (.inl x), some (.inl y), some (.inl run), some (.inl st), some (.inl p_), some (.inl l6), some (.inl l7), some (.inl l8), some (.inl e), some (.inl mm), some (.inl l11), some (.inl l12)], [.inl r4, .inl ((((s 3039) + (64 * y)) + x)), .inr (.inl 44)], n, D, s, p, c) _
    replace k6 : 0 ≤ r4 ∧ r4 ≤ (s 3017) := k6
    have b7 : 0 ≤ (s 3017) ∧ (s 3017) ≤ 65535 := hS 3017
    have b8 : 0 ≤ (s 3039) ∧ (s 3039) ≤ 8192 := hS 3039
    refine tt_ist (i := (((s 3039) + (64 * y)) + x)) (x := r4) rfl rfl (by omega) ?_
    show tt Zi d 161 (398, [some (.inr (.inl 30)), some (.inl x), some (.inl y), some (.inl run), some (.inl st), some (.inl p_), some (.inl l6), some (.inl l7), some (.inl l8), some (.inl e), some (.inl mm), some (.inl l11), some (.inl l12)], [], n, D, s, p, (uc c 44 (ua (c 44) ((((s 3039) + (64 * y)) + x)).toNat r4))) _
    refine tt_k 4 (S' := (406, [some (.inr (.inl 30)), some (.inl x), some (.inl y), some (.inl run), some (.inl st), some (.inl p_), some (.inl l6), some (.inl l7), some (.inl l8), some (.inl e), some (.inl mm), some (.inl l11), some (.inl l12)], [.inl e, .inl p_, .inr (.inl 37)], n, D, s, p, (uc c 44 (ua (c 44) ((((s 3039) + (64 * y)) + x)).toNat r4)))) rfl ?_
    have K10 : ∀ (j9 : Int) , (-2147483648 ≤ j9 ∧ j9 ≤ 2147483648) → ((c 37 (p_).toNat) ≤ j9 ∧ j9 ≤ (c 37 (p_).toNat) + 1) → (True) → tt Zi d 161 (428, [some (.inr (.inl 30)), some (.inl x), some (.inl y), some (.inl run), some (.inl st), some (.inl p_), some (.inl l6), some (.inl l7), some (.inl l8), some (.inl e), some (.inl mm), some (.inl l11), some (.inl l12)], [.inl j9, .inl p_, .inr (.inl 37)], n, D, s, p, (uc c 44 (ua (c 44) ((((s 3039) + (64 * y)) + x)).toNat r4))) (fun R H => ∃ (s' : Nat → Int) (c' : Nat → Nat → Int), R = .inl none ∧ H = (n, D, s', p, c') ∧ bS s' ∧ bC D c' ∧ fr s s' [3035] ∧ frc c c' [36, 37, 39, 44] ∧ (s 3050 = 0 → pl s' (t + 1) c') ∧ (s 3050 = 0 → tb (s 3037) (s 3039) (s 3017) (c' 44) (x + 1) y) ∧ (0 ≤ s' 3035 ∧ s' 3035 ≤ 22)) := by
      intro j9 b12 b13 hj11
      refine tt_ist (i := p_) (x := j9) rfl rfl (by omega) ?_
      show tt Zi d 161 (429, [some (.inr (.inl 30)), some (.inl x), some (.inl y), some (.inl run), some (.inl st), some (.inl p_), some (.inl l6), some (.inl l7), some (.inl l8), some (.inl e), some (.inl mm), some (.inl l11), some (.inl l12)], [], n, D, s, p, (uc (uc c 44 (ua (c 44) ((((s 3039) + (64 * y)) + x)).toNat r4)) 37 (ua (c 37) (p_).toNat j9))) _
      refine tt_k 4 (S' := (436, [some (.inr (.inl 30)), some (.inl x), some (.inl y), some (.inl run), some (.inl st), some (.inl p_), some (.inl l6), some (.inl l7), some (.inl l8), some (.inl e), some (.inl mm), some (.inl l11), some (.inl l12)], [.inl p_, .inr (.inl 36), .inl p_, .inr (.inl 36)], n, D, s, p, (uc (uc c 44 (ua (c 44) ((((s 3039) + (64 * y)) + x)).toNat r4)) 37 (ua (c 37) (p_).toNat j9)))) rfl ?_
      refine tt_ildv (i := p_) (v := (c 36 (p_).toNat)) rfl rfl (by omega) rfl ?_
      show tt Zi d 161 (437, [some (.inr (.inl 30)), some (.inl x), some (.inl y), some (.inl run), some (.inl st), some (.inl p_), some (.inl l6), some (.inl l7), some (.inl l8), some (.inl e), some (.inl mm), some (.inl l11), some (.inl l12)], [.inl (c 36 (p_).toNat), .inl p_, .inr (.inl 36)], n, D, s, p, (uc (uc c 44 (ua (c 44) ((((s 3039) + (64 * y)) + x)).toNat r4)) 37 (ua (c 37) (p_).toNat j9))) _
      have b14 : -2147483648 ≤ (c 36 (p_).toNat) ∧ (c 36 (p_).toNat) ≤ 2147483647 := hC 36 _
      refine tt_k 6 (S' := (445, [some (.inr (.inl 30)), some (.inl x), some (.inl y), some (.inl run), some (.inl st), some (.inl p_), some (.inl l6), some (.inl l7), some (.inl l8), some (.inl e), some (.inl mm), some (.inl l11), some (.inl l12)], [.inl 2, .inl ((mm + 1) - st), .inl (c 36 (p_).toNat), .inl p_, .inr (.inl 36)], n, D, s, p, (uc (uc c 44 (ua (c 44) ((((s 3039) + (64 * y)) + x)).toNat r4)) 37 (ua (c 37) (p_).toNat j9)))) rfl ?_
      refine tt_dvp (x := ((mm + 1) - st)) (y := 2) rfl (by omega) ?_
      show tt Zi d 161 (446, [some (.inr (.inl 30)), some (.inl x), some (.inl y), some (.inl run), some (.inl st), some (.inl p_), some (.inl l6), some (.inl l7), some (.inl l8), some (.inl e), some (.inl mm), some (.inl l11), some (.inl l12)], [.inl ((((mm + 1) - st) / 2)), .inl (c 36 (p_).toNat), .inl p_, .inr (.inl 36)], n, D, s, p, (uc (uc c 44 (ua (c 44) ((((s 3039) + (64 * y)) + x)).toNat r4)) 37 (ua (c 37) (p_).toNat j9))) _
      refine tt_k 1 (S' := (447, [some (.inr (.inl 30)), some (.inl x), some (.inl y), some (.inl run), some (.inl st), some (.inl p_), some (.inl l6), some (.inl l7), some (.inl l8), some (.inl e), some (.inl mm), some (.inl l11), some (.inl l12)], [.inl (((c 36 (p_).toNat) + (((mm + 1) - st) / 2))), .inl p_, .inr (.inl 36)], n, D, s, p, (uc (uc c 44 (ua (c 44) ((((s 3039) + (64 * y)) + x)).toNat r4)) 37 (ua (c 37) (p_).toNat j9)))) rfl ?_
      refine tt_ist (i := p_) (x := ((c 36 (p_).toNat) + (((mm + 1) - st) / 2))) rfl rfl (by omega) ?_
      show tt Zi d 161 (448, [some (.inr (.inl 30)), some (.inl x), some (.inl y), some (.inl run), some (.inl st), some (.inl p_), some (.inl l6), some (.inl l7), some (.inl l8), some (.inl e), some (.inl mm), some (.inl l11), some (.inl l12)], [], n, D, s, p, (uc (uc (uc c 44 (ua (c 44) ((((s 3039) + (64 * y)) + x)).toNat r4)) 37 (ua (c 37) (p_).toNat j9)) 36 (ua (c 36) (p_).toNat (((c 36 (p_).toNat) + (((mm + 1) - st) / 2)))))) _
      refine tt_k 3 (S' := (454, [some (.inr (.inl 30)), some (.inl x), some (.inl y), some (.inl run), some (.inl st), some (.inl p_), some (.inl l6), some (.inl l7), some (.inl l8), some (.inl e), some (.inl mm), some (.inl l11), some (.inl l12)], [.inl p_, .inr (.inl 39)], n, D, s, p, (uc (uc (uc c 44 (ua (c 44) ((((s 3039) + (64 * y)) + x)).toNat r4)) 37 (ua (c 37) (p_).toNat j9)) 36 (ua (c 36) (p_).toNat (((c 36 (p_).toNat) + (((mm + 1) - st) / 2))))))) rfl ?_
      refine tt_ildv (i := p_) (v := (c 39 (p_).toNat)) rfl rfl (by omega) rfl ?_
      show tt Zi d 161 (455, [some (.inr (.inl 30)), some (.inl x), some (.inl y), some (.inl run), some (.inl st), some (.inl p_), some (.inl l6), some (.inl l7), some (.inl l8), some (.inl e), some (.inl mm), some (.inl l11), some (.inl l12)], [.inl (c 39 (p_).toNat)], n, D, s, p, (uc (uc (uc c 44 (ua (c 44) ((((s 3039) + (64 * y)) + x)).toNat r4)) 37 (ua (c 37) (p_).toNat j9)) 36 (ua (c 36) (p_).toNat (((c 36 (p_).toNat) + (((mm + 1) - st) / 2)))))) _
      have b15 : -2147483648 ≤ (c 39 (p_).toNat) ∧ (c 39 (p_).toNat) ≤ 2147483647 := hC 39 _
      refine tt_k 2 (S' := (459, [some (.inr (.inl 30)), some (.inl x), some (.inl y), some (.inl run), some (.inl st), some (.inl p_), some (.inl l6), some (.inl l7), some (.inl l8), some (.inl e), some (.inl mm), some (.inl l11), some (.inl l12)], [.inl (s 3022), .inl (c 39 (p_).toNat)], n, D, s, p, (uc (uc (uc c 44 (ua (c 44) ((((s 3039) + (64 * y)) + x)).toNat r4)) 37 (ua (c 37) (p_).toNat j9)) 36 (ua (c 36) (p_).toNat (((c 36 (p_).toNat) + (((mm + 1) - st) / 2))))))) rfl ?_
      have b16 : 0 ≤ (s 3022) ∧ (s 3022) ≤ 65535 := hS 3022
      refine tb_ne (x := (c 39 (p_).toNat)) (y := (s 3022)) rfl rfl (by omega) (fun h17 => ?_) (fun h17 => ?_)
      · show tt Zi d 161 (510, [some (.inr (.inl 30)), some (.inl x), some (.inl y), some (.inl run), some (.inl st), some (.inl p_), some (.inl l6), some (.inl l7), some (.inl l8), some (.inl e), some (.inl mm), some (.inl l11), some (.inl l12)], [], n, D, s, p, (uc (uc (uc c 44 (ua (c 44) ((((s 3039) + (64 * y)) + x)).toNat r4)) 37 (ua (c 37) (p_).toNat j9)) 36 (ua (c 36) (p_).toNat (((c 36 (p_).toNat) + (((mm + 1) - st) / 2)))))) _
        refine tt_k 4 (S' := (517, [some (.inr (.inl 30)), some (.inl x), some (.inl y), some (.inl run), some (.inl st), some (.inl p_), some (.inl l6), some (.inl l7), some (.inl l8), some (.inl e), some (.inl mm), some (.inl l11), some (.inl l12)], [.inl p_, .inr (.inl 39), .inl p_, .inr (.inl 39)], n, D, s, p, (uc (uc (uc c 44 (ua (c 44) ((((s 3039) + (64 * y)) + x)).toNat r4)) 37 (ua (c 37) (p_).toNat j9)) 36 (ua (c 36) (p_).toNat (((c 36 (p_).toNat) + (((mm + 1) - st) / 2))))))) rfl ?_
        refine tt_ildv (i := p_) (v := (c 39 (p_).toNat)) rfl rfl (by omega) rfl ?_
        show tt Zi d 161 (518, [some (.inr (.inl 30)), some (.inl x), some (.inl y), some (.inl run), some (.inl st), some (.inl p_), some (.inl l6), some (.inl l7), some (.inl l8), some (.inl e), some (.inl mm), some (.inl l11), some (.inl l12)], [.inl (c 39 (p_).toNat), .inl p_, .inr (.inl 39)], n, D, s, p, (uc (uc (uc c 44 (ua (c 44) ((((s 3039) + (64 * y)) + x)).toNat r4)) 37 (ua (c 37) (p_).toNat j9)) 36 (ua (c 36) (p_).toNat (((c 36 (p_).toNat) + (((mm + 1) - st) / 2)))))) _
        refine tt_k 2 (S' := (520, [some (.inr (.inl 30)), some (.inl x), some (.inl y), some (.inl run), some (.inl st), some (.inl p_), some (.inl l6), some (.inl l7), some (.inl l8), some (.inl e), some (.inl mm), some (.inl l11), some (.inl l12)], [.inl (((c 39 (p_).toNat) + 1)), .inl p_, .inr (.inl 39)], n, D, s, p, (uc (uc (uc c 44 (ua (c 44) ((((s 3039) + (64 * y)) + x)).toNat r4)) 37 (ua (c 37) (p_).toNat j9)) 36 (ua (c 36) (p_).toNat (((c 36 (p_).toNat) + (((mm + 1) - st) / 2))))))) rfl ?_
        refine tt_ist (i := p_) (x := ((c 39 (p_).toNat) + 1)) rfl rfl (by omega) ?_
        show tt Zi d 161 (521, [some (.inr (.inl 30)), some (.inl x), some (.inl y), some (.inl run), some (.inl st), some (.inl p_), some (.inl l6), some (.inl l7), some (.inl l8), some (.inl e), some (.inl mm), some (.inl l11), some (.inl l12)], [], n, D, s, p, (uc (uc (uc (uc c 44 (ua (c 44) ((((s 3039) + (64 * y)) + x)).toNat r4)) 37 (ua (c 37) (p_).toNat j9)) 36 (ua (c 36) (p_).toNat (((c 36 (p_).toNat) + (((mm + 1) - st) / 2))))) 39 (ua (c 39) (p_).toNat (((c 39 (p_).toNat) + 1))))) _
        refine tt_k 3 (S' := (526, [some (.inr (.inl 30)), some (.inl x), some (.inl y), some (.inl run), some (.inl st), some (.inl p_), some (.inl l6), some (.inl l7), some (.inl l8), some (.inl e), some (.inl mm), some (.inl l11), some (.inl l12)], [.inl (s 3035), .inr (.inl 30)], n, D, s, p, (uc (uc (uc (uc c 44 (ua (c 44) ((((s 3039) + (64 * y)) + x)).toNat r4)) 37 (ua (c 37) (p_).toNat j9)) 36 (ua (c 36) (p_).toNat (((c 36 (p_).toNat) + (((mm + 1) - st) / 2))))) 39 (ua (c 39) (p_).toNat (((c 39 (p_).toNat) + 1)))))) rfl ?_
        have b18 : 0 ≤ (s 3035) ∧ (s 3035) ≤ 31 := hS 3035
        have K20 : ∀ (j19 : Int) , (0 ≤ j19 ∧ j19 ≤ 21) → (0 ≤ j19 ∧ j19 ≤ 22) → (True) → tt Zi d 161 (539, [some (.inr (.inl 30)), some (.inl x), some (.inl y), some (.inl run), some (.inl st), some (.inl p_), some (.inl l6), some (.inl l7), some (.inl l8), some (.inl e), some (.inl mm), some (.inl l11), some (.inl l12)], [.inl j19, .inr (.inl 30)], n, D, s, p, (uc (uc (uc (uc c 44 (ua (c 44) ((((s 3039) + (64 * y)) + x)).toNat r4)) 37 (ua (c 37) (p_).toNat j9)) 36 (ua (c 36) (p_).toNat (((c 36 (p_).toNat) + (((mm + 1) - st) / 2))))) 39 (ua (c 39) (p_).toNat (((c 39 (p_).toNat) + 1))))) (fun R H => ∃ (s' : Nat → Int) (c' : Nat → Nat → Int), R = .inl none ∧ H = (n, D, s', p, c') ∧ bS s' ∧ bC D c' ∧ fr s s' [3035] ∧ frc c c' [36, 37, 39, 44] ∧ (s 3050 = 0 → pl s' (t + 1) c') ∧ (s 3050 = 0 → tb (s 3037) (s 3039) (s 3017) (c' 44) (x + 1) y) ∧ (0 ≤ s' 3035 ∧ s' 3035 ≤ 22)) := by
          intro j19 b22 b23 hj21
          refine tt_k 1 (S' := (542, [some (.inr (.inl 30)), some (.inl x), some (.inl y), some (.inl run), some (.inl st), some (.inl p_), some (.inl l6), some (.inl l7), some (.inl l8), some (.inl e), some (.inl mm), some (.inl l11), some (.inl l12)], [], n, D, (us s 3035 j19), p, (uc (uc (uc (uc c 44 (ua (c 44) ((((s 3039) + (64 * y)) + x)).toNat r4)) 37 (ua (c 37) (p_).toNat j9)) 36 (ua (c 36) (p_).toNat (((c 36 (p_).toNat) + (((mm + 1) - st) / 2))))) 39 (ua (c 39) (p_).toNat (((c 39 (p_).toNat) + 1)))))) rfl ?_
          have q36 : (uc (uc (uc (uc c 44 (ua (c 44) ((((s 3039) + (64 * y)) + x)).toNat r4)) 37 (ua (c 37) (p_).toNat j9)) 36 (ua (c 36) (p_).toNat (((c 36 (p_).toNat) + (((mm + 1) - st) / 2))))) 39 (ua (c 39) (p_).toNat (((c 39 (p_).toNat) + 1)))) 36 (p_).toNat = ((c 36 (p_).toNat) + (((mm + 1) - st) / 2)) := by show (ua (c 36) (p_).toNat (((c 36 (p_).toNat) + (((mm + 1) - st) / 2)))) (p_).toNat = _; exact ua_eq
          have q37 : (uc (uc (uc (uc c 44 (ua (c 44) ((((s 3039) + (64 * y)) + x)).toNat r4)) 37 (ua (c 37) (p_).toNat j9)) 36 (ua (c 36) (p_).toNat (((c 36 (p_).toNat) + (((mm + 1) - st) / 2))))) 39 (ua (c 39) (p_).toNat (((c 39 (p_).toNat) + 1)))) 37 (p_).toNat = j9 := by show (ua (c 37) (p_).toNat j9) (p_).toNat = _; exact ua_eq
          have q39 : (uc (uc (uc (uc c 44 (ua (c 44) ((((s 3039) + (64 * y)) + x)).toNat r4)) 37 (ua (c 37) (p_).toNat j9)) 36 (ua (c 36) (p_).toNat (((c 36 (p_).toNat) + (((mm + 1) - st) / 2))))) 39 (ua (c 39) (p_).toNat (((c 39 (p_).toNat) + 1)))) 39 (p_).toNat = ((c 39 (p_).toNat) + 1) := by show (ua (c 39) (p_).toNat (((c 39 (p_).toNat) + 1))) (p_).toNat = _; exact ua_eq
          have u36 : ∀ j, j ≠ (p_).toNat → (uc (uc (uc (uc c 44 (ua (c 44) ((((s 3039) + (64 * y)) + x)).toNat r4)) 37 (ua (c 37) (p_).toNat j9)) 36 (ua (c 36) (p_).toNat (((c 36 (p_).toNat) + (((mm + 1) - st) / 2))))) 39 (ua (c 39) (p_).toNat (((c 39 (p_).toNat) + 1)))) 36 j = c 36 j := by intro j hj; show (ua (c 36) (p_).toNat (((c 36 (p_).toNat) + (((mm + 1) - st) / 2)))) j = _; simp only [ua_ne hj]
          have u37 : ∀ j, j ≠ (p_).toNat → (uc (uc (uc (uc c 44 (ua (c 44) ((((s 3039) + (64 * y)) + x)).toNat r4)) 37 (ua (c 37) (p_).toNat j9)) 36 (ua (c 36) (p_).toNat (((c 36 (p_).toNat) + (((mm + 1) - st) / 2))))) 39 (ua (c 39) (p_).toNat (((c 39 (p_).toNat) + 1)))) 37 j = c 37 j := by intro j hj; show (ua (c 37) (p_).toNat j9) j = _; simp only [ua_ne hj]
          have u39 : ∀ j, j ≠ (p_).toNat → (uc (uc (uc (uc c 44 (ua (c 44) ((((s 3039) + (64 * y)) + x)).toNat r4)) 37 (ua (c 37) (p_).toNat j9)) 36 (ua (c 36) (p_).toNat (((c 36 (p_).toNat) + (((mm + 1) - st) / 2))))) 39 (ua (c 39) (p_).toNat (((c 39 (p_).toNat) + 1)))) 39 j = c 39 j := by intro j hj; show (ua (c 39) (p_).toNat (((c 39 (p_).toNat) + 1))) j = _; simp only [ua_ne hj]
          have g36 : (uc (uc (uc (uc c 44 (ua (c 44) ((((s 3039) + (64 * y)) + x)).toNat r4)) 37 (ua (c 37) (p_).toNat j9)) 36 (ua (c 36) (p_).toNat (((c 36 (p_).toNat) + (((mm + 1) - st) / 2))))) 39 (ua (c 39) (p_).toNat (((c 39 (p_).toNat) + 1)))) 36 (p_).toNat = if c 39 (p_).toNat = s 3022 then (c 36 (p_).toNat + ((mm + 1 - st) / 2)) / 2 else c 36 (p_).toNat + ((mm + 1 - st) / 2) := by rw [q36]; (try split) <;> omega
          have g39 : (uc (uc (uc (uc c 44 (ua (c 44) ((((s 3039) + (64 * y)) + x)).toNat r4)) 37 (ua (c 37) (p_).toNat j9)) 36 (ua (c 36) (p_).toNat (((c 36 (p_).toNat) + (((mm + 1) - st) / 2))))) 39 (ua (c 39) (p_).toNat (((c 39 (p_).toNat) + 1)))) 39 (p_).toNat = (if c 39 (p_).toNat = s 3022 then c 39 (p_).toNat / 2 else c 39 (p_).toNat) + 1 := by rw [q39]; (try split) <;> omega
          have hTB : tb (s 3037) (s 3039) (s 3017) (ua (c 44) ((((s 3039) + (64 * y)) + x)).toNat r4) (x + 1) y := tb_next hp5 (by omega) (by omega) (by omega) (by omega) (by omega)
          exact tt_rtv rfl rfl ⟨(us s 3035 j19), (uc (uc (uc (uc c 44 (ua (c 44) ((((s 3039) + (64 * y)) + x)).toNat r4)) 37 (ua (c 37) (p_).toNat j9)) 36 (ua (c 36) (p_).toNat (((c 36 (p_).toNat) + (((mm + 1) - st) / 2))))) 39 (ua (c 39) (p_).toNat (((c 39 (p_).toNat) + 1)))), rfl, rfl, (bS_us hS (show 0 ≤ j19 ∧ j19 ≤ 31 by omega)), (bC_st (bC_st (bC_st (bC_st hC (show 0 ≤ r4 ∧ r4 ≤ 65535 by omega)) (show -2147483648 ≤ j9 ∧ j9 ≤ 2147483647 by omega)) (show -2147483648 ≤ ((c 36 (p_).toNat) + (((mm + 1) - st) / 2)) ∧ ((c 36 (p_).toNat) + (((mm + 1) - st) / 2)) ≤ 2147483647 by omega)) (show -2147483648 ≤ ((c 39 (p_).toNat) + 1) ∧ ((c 39 (p_).toNat) + 1) ≤ 2147483647 by omega)), (fr_us (by decide) fr_rf), (frc_uc (by decide) (frc_uc (by decide) (frc_uc (by decide) (frc_uc (by decide) frc_rf)))), fun _ => pl_next (s := s) (s' := (us s 3035 j19)) hp0 (by omega) hp3 (i := (p_).toNat) (by omega) rfl (E := ((mm + 1 - st) / 2)) (by omega) (by omega) g36 g39 (by rw [q37]; omega) (by show -128 ≤ c 38 (p_).toNat ∧ c 38 (p_).toNat ≤ 127; omega) u36 u37 (fun _ _ => rfl) u39, fun _ => hTB, by show 0 ≤ j19 ∧ j19 ≤ 22; omega⟩
        refine tz_le (x := (s 3035)) rfl rfl (by omega) (fun h24 => ?_) (fun h24 => ?_)
        · show tt Zi d 161 (538, [some (.inr (.inl 30)), some (.inl x), some (.inl y), some (.inl run), some (.inl st), some (.inl p_), some (.inl l6), some (.inl l7), some (.inl l8), some (.inl e), some (.inl mm), some (.inl l11), some (.inl l12)], [.inr (.inl 30)], n, D, s, p, (uc (uc (uc (uc c 44 (ua (c 44) ((((s 3039) + (64 * y)) + x)).toNat r4)) 37 (ua (c 37) (p_).toNat j9)) 36 (ua (c 36) (p_).toNat (((c 36 (p_).toNat) + (((mm + 1) - st) / 2))))) 39 (ua (c 39) (p_).toNat (((c 39 (p_).toNat) + 1))))) _
          refine tt_k 1 (S' := (539, [some (.inr (.inl 30)), some (.inl x), some (.inl y), some (.inl run), some (.inl st), some (.inl p_), some (.inl l6), some (.inl l7), some (.inl l8), some (.inl e), some (.inl mm), some (.inl l11), some (.inl l12)], [.inl 0, .inr (.inl 30)], n, D, s, p, (uc (uc (uc (uc c 44 (ua (c 44) ((((s 3039) + (64 * y)) + x)).toNat r4)) 37 (ua (c 37) (p_).toNat j9)) 36 (ua (c 36) (p_).toNat (((c 36 (p_).toNat) + (((mm + 1) - st) / 2))))) 39 (ua (c 39) (p_).toNat (((c 39 (p_).toNat) + 1)))))) rfl ?_
          exact K20 0  (by omega) (by omega) (trivial)
        · show tt Zi d 161 (529, [some (.inr (.inl 30)), some (.inl x), some (.inl y), some (.inl run), some (.inl st), some (.inl p_), some (.inl l6), some (.inl l7), some (.inl l8), some (.inl e), some (.inl mm), some (.inl l11), some (.inl l12)], [.inr (.inl 30)], n, D, s, p, (uc (uc (uc (uc c 44 (ua (c 44) ((((s 3039) + (64 * y)) + x)).toNat r4)) 37 (ua (c 37) (p_).toNat j9)) 36 (ua (c 36) (p_).toNat (((c 36 (p_).toNat) + (((mm + 1) - st) / 2))))) 39 (ua (c 39) (p_).toNat (((c 39 (p_).toNat) + 1))))) _
          refine tt_k 5 (S' := (539, [some (.inr (.inl 30)), some (.inl x), some (.inl y), some (.inl run), some (.inl st), some (.inl p_), some (.inl l6), some (.inl l7), some (.inl l8), some (.inl e), some (.inl mm), some (.inl l11), some (.inl l12)], [.inl ((s 3035) - 1), .inr (.inl 30)], n, D, s, p, (uc (uc (uc (uc c 44 (ua (c 44) ((((s 3039) + (64 * y)) + x)).toNat r4)) 37 (ua (c 37) (p_).toNat j9)) 36 (ua (c 36) (p_).toNat (((c 36 (p_).toNat) + (((mm + 1) - st) / 2))))) 39 (ua (c 39) (p_).toNat (((c 39 (p_).toNat) + 1)))))) rfl ?_
          exact K20 ((s 3035) - 1)  (by omega) (by omega) (trivial)
      · show tt Zi d 161 (462, [some (.inr (.inl 30)), some (.inl x), some (.inl y), some (.inl run), some (.inl st), some (.inl p_), some (.inl l6), some (.inl l7), some (.inl l8), some (.inl e), some (.inl mm), some (.inl l11), some (.inl l12)], [], n, D, s, p, (uc (uc (uc c 44 (ua (c 44) ((((s 3039) + (64 * y)) + x)).toNat r4)) 37 (ua (c 37) (p_).toNat j9)) 36 (ua (c 36) (p_).toNat (((c 36 (p_).toNat) + (((mm + 1) - st) / 2)))))) _
        refine tt_k 6 (S' := (474, [some (.inr (.inl 30)), some (.inl x), some (.inl y), some (.inl run), some (.inl st), some (.inl p_), some (.inl l6), some (.inl l7), some (.inl l8), some (.inl e), some (.inl mm), some (.inl l11), some (.inl l12)], [.inl p_, .inr (.inl 36), .inl p_, .inr (.inl 36)], n, D, s, p, (uc (uc (uc c 44 (ua (c 44) ((((s 3039) + (64 * y)) + x)).toNat r4)) 37 (ua (c 37) (p_).toNat j9)) 36 (ua (c 36) (p_).toNat (((c 36 (p_).toNat) + (((mm + 1) - st) / 2))))))) rfl ?_
        refine tt_ildv (i := p_) (v := ((c 36 (p_).toNat) + (((mm + 1) - st) / 2))) rfl rfl (by omega) ua_eq ?_
        show tt Zi d 161 (475, [some (.inr (.inl 30)), some (.inl x), some (.inl y), some (.inl run), some (.inl st), some (.inl p_), some (.inl l6), some (.inl l7), some (.inl l8), some (.inl e), some (.inl mm), some (.inl l11), some (.inl l12)], [.inl (((c 36 (p_).toNat) + (((mm + 1) - st) / 2))), .inl p_, .inr (.inl 36)], n, D, s, p, (uc (uc (uc c 44 (ua (c 44) ((((s 3039) + (64 * y)) + x)).toNat r4)) 37 (ua (c 37) (p_).toNat j9)) 36 (ua (c 36) (p_).toNat (((c 36 (p_).toNat) + (((mm + 1) - st) / 2)))))) _
        refine tt_k 1 (S' := (476, [some (.inr (.inl 30)), some (.inl x), some (.inl y), some (.inl run), some (.inl st), some (.inl p_), some (.inl l6), some (.inl l7), some (.inl l8), some (.inl e), some (.inl mm), some (.inl l11), some (.inl l12)], [.inl 2, .inl (((c 36 (p_).toNat) + (((mm + 1) - st) / 2))), .inl p_, .inr (.inl 36)], n, D, s, p, (uc (uc (uc c 44 (ua (c 44) ((((s 3039) + (64 * y)) + x)).toNat r4)) 37 (ua (c 37) (p_).toNat j9)) 36 (ua (c 36) (p_).toNat (((c 36 (p_).toNat) + (((mm + 1) - st) / 2))))))) rfl ?_
        refine tt_dvp (x := ((c 36 (p_).toNat) + (((mm + 1) - st) / 2))) (y := 2) rfl (by omega) ?_
        show tt Zi d 161 (477, [some (.inr (.inl 30)), some (.inl x), some (.inl y), some (.inl run), some (.inl st), some (.inl p_), some (.inl l6), some (.inl l7), some (.inl l8), some (.inl e), some (.inl mm), some (.inl l11), some (.inl l12)], [.inl ((((c 36 (p_).toNat) + (((mm + 1) - st) / 2)) / 2)), .inl p_, .inr (.inl 36)], n, D, s, p, (uc (uc (uc c 44 (ua (c 44) ((((s 3039) + (64 * y)) + x)).toNat r4)) 37 (ua (c 37) (p_).toNat j9)) 36 (ua (c 36) (p_).toNat (((c 36 (p_).toNat) + (((mm + 1) - st) / 2)))))) _
        refine tt_ist (i := p_) (x := (((c 36 (p_).toNat) + (((mm + 1) - st) / 2)) / 2)) rfl rfl (by omega) ?_
        show tt Zi d 161 (478, [some (.inr (.inl 30)), some (.inl x), some (.inl y), some (.inl run), some (.inl st), some (.inl p_), some (.inl l6), some (.inl l7), some (.inl l8), some (.inl e), some (.inl mm), some (.inl l11), some (.inl l12)], [], n, D, s, p, (uc (uc (uc (uc c 44 (ua (c 44) ((((s 3039) + (64 * y)) + x)).toNat r4)) 37 (ua (c 37) (p_).toNat j9)) 36 (ua (c 36) (p_).toNat (((c 36 (p_).toNat) + (((mm + 1) - st) / 2))))) 36 (ua (ua (c 36) (p_).toNat (((c 36 (p_).toNat) + (((mm + 1) - st) / 2)))) (p_).toNat ((((c 36 (p_).toNat) + (((mm + 1) - st) / 2)) / 2))))) _
        refine tt_k 6 (S' := (490, [some (.inr (.inl 30)), some (.inl x), some (.inl y), some (.inl run), some (.inl st), some (.inl p_), some (.inl l6), some (.inl l7), some (.inl l8), some (.inl e), some (.inl mm), some (.inl l11), some (.inl l12)], [.inl p_, .inr (.inl 37), .inl p_, .inr (.inl 37)], n, D, s, p, (uc (uc (uc (uc c 44 (ua (c 44) ((((s 3039) + (64 * y)) + x)).toNat r4)) 37 (ua (c 37) (p_).toNat j9)) 36 (ua (c 36) (p_).toNat (((c 36 (p_).toNat) + (((mm + 1) - st) / 2))))) 36 (ua (ua (c 36) (p_).toNat (((c 36 (p_).toNat) + (((mm + 1) - st) / 2)))) (p_).toNat ((((c 36 (p_).toNat) + (((mm + 1) - st) / 2)) / 2)))))) rfl ?_
        refine tt_ildv (i := p_) (v := j9) rfl rfl (by omega) ua_eq ?_
        show tt Zi d 161 (491, [some (.inr (.inl 30)), some (.inl x), some (.inl y), some (.inl run), some (.inl st), some (.inl p_), some (.inl l6), some (.inl l7), some (.inl l8), some (.inl e), some (.inl mm), some (.inl l11), some (.inl l12)], [.inl j9, .inl p_, .inr (.inl 37)], n, D, s, p, (uc (uc (uc (uc c 44 (ua (c 44) ((((s 3039) + (64 * y)) + x)).toNat r4)) 37 (ua (c 37) (p_).toNat j9)) 36 (ua (c 36) (p_).toNat (((c 36 (p_).toNat) + (((mm + 1) - st) / 2))))) 36 (ua (ua (c 36) (p_).toNat (((c 36 (p_).toNat) + (((mm + 1) - st) / 2)))) (p_).toNat ((((c 36 (p_).toNat) + (((mm + 1) - st) / 2)) / 2))))) _
        refine tt_k 1 (S' := (492, [some (.inr (.inl 30)), some (.inl x), some (.inl y), some (.inl run), some (.inl st), some (.inl p_), some (.inl l6), some (.inl l7), some (.inl l8), some (.inl e), some (.inl mm), some (.inl l11), some (.inl l12)], [.inl 2, .inl j9, .inl p_, .inr (.inl 37)], n, D, s, p, (uc (uc (uc (uc c 44 (ua (c 44) ((((s 3039) + (64 * y)) + x)).toNat r4)) 37 (ua (c 37) (p_).toNat j9)) 36 (ua (c 36) (p_).toNat (((c 36 (p_).toNat) + (((mm + 1) - st) / 2))))) 36 (ua (ua (c 36) (p_).toNat (((c 36 (p_).toNat) + (((mm + 1) - st) / 2)))) (p_).toNat ((((c 36 (p_).toNat) + (((mm + 1) - st) / 2)) / 2)))))) rfl ?_
        refine tt_div (x := j9) (y := 2) rfl (by omega) ?_
        show tt Zi d 161 (493, [some (.inr (.inl 30)), some (.inl x), some (.inl y), some (.inl run), some (.inl st), some (.inl p_), some (.inl l6), some (.inl l7), some (.inl l8), some (.inl e), some (.inl mm), some (.inl l11), some (.inl l12)], [.inl (Int.tdiv j9 2), .inl p_, .inr (.inl 37)], n, D, s, p, (uc (uc (uc (uc c 44 (ua (c 44) ((((s 3039) + (64 * y)) + x)).toNat r4)) 37 (ua (c 37) (p_).toNat j9)) 36 (ua (c 36) (p_).toNat (((c 36 (p_).toNat) + (((mm + 1) - st) / 2))))) 36 (ua (ua (c 36) (p_).toNat (((c 36 (p_).toNat) + (((mm + 1) - st) / 2)))) (p_).toNat ((((c 36 (p_).toNat) + (((mm + 1) - st) / 2)) / 2))))) _
        have b25 := tdv_bd (x := j9) (y := 2) (a := 2147483648) (by omega) (by omega) (by omega)
        have b26 := tdv2 (x := j9) (lo := -65536) (hi := 2 + t) (by omega) (by omega) (by omega) (by omega)
        refine tt_ist (i := p_) (x := (Int.tdiv j9 2)) rfl rfl (by omega) ?_
        show tt Zi d 161 (494, [some (.inr (.inl 30)), some (.inl x), some (.inl y), some (.inl run), some (.inl st), some (.inl p_), some (.inl l6), some (.inl l7), some (.inl l8), some (.inl e), some (.inl mm), some (.inl l11), some (.inl l12)], [], n, D, s, p, (uc (uc (uc (uc (uc c 44 (ua (c 44) ((((s 3039) + (64 * y)) + x)).toNat r4)) 37 (ua (c 37) (p_).toNat j9)) 36 (ua (c 36) (p_).toNat (((c 36 (p_).toNat) + (((mm + 1) - st) / 2))))) 36 (ua (ua (c 36) (p_).toNat (((c 36 (p_).toNat) + (((mm + 1) - st) / 2)))) (p_).toNat ((((c 36 (p_).toNat) + (((mm + 1) - st) / 2)) / 2)))) 37 (ua (ua (c 37) (p_).toNat j9) (p_).toNat (Int.tdiv j9 2)))) _
        refine tt_k 6 (S' := (506, [some (.inr (.inl 30)), some (.inl x), some (.inl y), some (.inl run), some (.inl st), some (.inl p_), some (.inl l6), some (.inl l7), some (.inl l8), some (.inl e), some (.inl mm), some (.inl l11), some (.inl l12)], [.inl p_, .inr (.inl 39), .inl p_, .inr (.inl 39)], n, D, s, p, (uc (uc (uc (uc (uc c 44 (ua (c 44) ((((s 3039) + (64 * y)) + x)).toNat r4)) 37 (ua (c 37) (p_).toNat j9)) 36 (ua (c 36) (p_).toNat (((c 36 (p_).toNat) + (((mm + 1) - st) / 2))))) 36 (ua (ua (c 36) (p_).toNat (((c 36 (p_).toNat) + (((mm + 1) - st) / 2)))) (p_).toNat ((((c 36 (p_).toNat) + (((mm + 1) - st) / 2)) / 2)))) 37 (ua (ua (c 37) (p_).toNat j9) (p_).toNat (Int.tdiv j9 2))))) rfl ?_
        refine tt_ildv (i := p_) (v := (c 39 (p_).toNat)) rfl rfl (by omega) rfl ?_
        show tt Zi d 161 (507, [some (.inr (.inl 30)), some (.inl x), some (.inl y), some (.inl run), some (.inl st), some (.inl p_), some (.inl l6), some (.inl l7), some (.inl l8), some (.inl e), some (.inl mm), some (.inl l11), some (.inl l12)], [.inl (c 39 (p_).toNat), .inl p_, .inr (.inl 39)], n, D, s, p, (uc (uc (uc (uc (uc c 44 (ua (c 44) ((((s 3039) + (64 * y)) + x)).toNat r4)) 37 (ua (c 37) (p_).toNat j9)) 36 (ua (c 36) (p_).toNat (((c 36 (p_).toNat) + (((mm + 1) - st) / 2))))) 36 (ua (ua (c 36) (p_).toNat (((c 36 (p_).toNat) + (((mm + 1) - st) / 2)))) (p_).toNat ((((c 36 (p_).toNat) + (((mm + 1) - st) / 2)) / 2)))) 37 (ua (ua (c 37) (p_).toNat j9) (p_).toNat (Int.tdiv j9 2)))) _
        refine tt_k 1 (S' := (508, [some (.inr (.inl 30)), some (.inl x), some (.inl y), some (.inl run), some (.inl st), some (.inl p_), some (.inl l6), some (.inl l7), some (.inl l8), some (.inl e), some (.inl mm), some (.inl l11), some (.inl l12)], [.inl 2, .inl (c 39 (p_).toNat), .inl p_, .inr (.inl 39)], n, D, s, p, (uc (uc (uc (uc (uc c 44 (ua (c 44) ((((s 3039) + (64 * y)) + x)).toNat r4)) 37 (ua (c 37) (p_).toNat j9)) 36 (ua (c 36) (p_).toNat (((c 36 (p_).toNat) + (((mm + 1) - st) / 2))))) 36 (ua (ua (c 36) (p_).toNat (((c 36 (p_).toNat) + (((mm + 1) - st) / 2)))) (p_).toNat ((((c 36 (p_).toNat) + (((mm + 1) - st) / 2)) / 2)))) 37 (ua (ua (c 37) (p_).toNat j9) (p_).toNat (Int.tdiv j9 2))))) rfl ?_
        refine tt_dvp (x := (c 39 (p_).toNat)) (y := 2) rfl (by omega) ?_
        show tt Zi d 161 (509, [some (.inr (.inl 30)), some (.inl x), some (.inl y), some (.inl run), some (.inl st), some (.inl p_), some (.inl l6), some (.inl l7), some (.inl l8), some (.inl e), some (.inl mm), some (.inl l11), some (.inl l12)], [.inl (((c 39 (p_).toNat) / 2)), .inl p_, .inr (.inl 39)], n, D, s, p, (uc (uc (uc (uc (uc c 44 (ua (c 44) ((((s 3039) + (64 * y)) + x)).toNat r4)) 37 (ua (c 37) (p_).toNat j9)) 36 (ua (c 36) (p_).toNat (((c 36 (p_).toNat) + (((mm + 1) - st) / 2))))) 36 (ua (ua (c 36) (p_).toNat (((c 36 (p_).toNat) + (((mm + 1) - st) / 2)))) (p_).toNat ((((c 36 (p_).toNat) + (((mm + 1) - st) / 2)) / 2)))) 37 (ua (ua (c 37) (p_).toNat j9) (p_).toNat (Int.tdiv j9 2)))) _
        refine tt_ist (i := p_) (x := ((c 39 (p_).toNat) / 2)) rfl rfl (by omega) ?_
        show tt Zi d 161 (510, [some (.inr (.inl 30)), some (.inl x), some (.inl y), some (.inl run), some (.inl st), some (.inl p_), some (.inl l6), some (.inl l7), some (.inl l8), some (.inl e), some (.inl mm), some (.inl l11), some (.inl l12)], [], n, D, s, p, (uc (uc (uc (uc (uc (uc c 44 (ua (c 44) ((((s 3039) + (64 * y)) + x)).toNat r4)) 37 (ua (c 37) (p_).toNat j9)) 36 (ua (c 36) (p_).toNat (((c 36 (p_).toNat) + (((mm + 1) - st) / 2))))) 36 (ua (ua (c 36) (p_).toNat (((c 36 (p_).toNat) + (((mm + 1) - st) / 2)))) (p_).toNat ((((c 36 (p_).toNat) + (((mm + 1) - st) / 2)) / 2)))) 37 (ua (ua (c 37) (p_).toNat j9) (p_).toNat (Int.tdiv j9 2))) 39 (ua (c 39) (p_).toNat (((c 39 (p_).toNat) / 2))))) _
        refine tt_k 4 (S' := (517, [some (.inr (.inl 30)), some (.inl x), some (.inl y), some (.inl run), some (.inl st), some (.inl p_), some (.inl l6), some (.inl l7), some (.inl l8), some (.inl e), some (.inl mm), some (.inl l11), some (.inl l12)], [.inl p_, .inr (.inl 39), .inl p_, .inr (.inl 39)], n, D, s, p, (uc (uc (uc (uc (uc (uc c 44 (ua (c 44) ((((s 3039) + (64 * y)) + x)).toNat r4)) 37 (ua (c 37) (p_).toNat j9)) 36 (ua (c 36) (p_).toNat (((c 36 (p_).toNat) + (((mm + 1) - st) / 2))))) 36 (ua (ua (c 36) (p_).toNat (((c 36 (p_).toNat) + (((mm + 1) - st) / 2)))) (p_).toNat ((((c 36 (p_).toNat) + (((mm + 1) - st) / 2)) / 2)))) 37 (ua (ua (c 37) (p_).toNat j9) (p_).toNat (Int.tdiv j9 2))) 39 (ua (c 39) (p_).toNat (((c 39 (p_).toNat) / 2)))))) rfl ?_
        refine tt_ildv (i := p_) (v := ((c 39 (p_).toNat) / 2)) rfl rfl (by omega) ua_eq ?_
        show tt Zi d 161 (518, [some (.inr (.inl 30)), some (.inl x), some (.inl y), some (.inl run), some (.inl st), some (.inl p_), some (.inl l6), some (.inl l7), some (.inl l8), some (.inl e), some (.inl mm), some (.inl l11), some (.inl l12)], [.inl (((c 39 (p_).toNat) / 2)), .inl p_, .inr (.inl 39)], n, D, s, p, (uc (uc (uc (uc (uc (uc c 44 (ua (c 44) ((((s 3039) + (64 * y)) + x)).toNat r4)) 37 (ua (c 37) (p_).toNat j9)) 36 (ua (c 36) (p_).toNat (((c 36 (p_).toNat) + (((mm + 1) - st) / 2))))) 36 (ua (ua (c 36) (p_).toNat (((c 36 (p_).toNat) + (((mm + 1) - st) / 2)))) (p_).toNat ((((c 36 (p_).toNat) + (((mm + 1) - st) / 2)) / 2)))) 37 (ua (ua (c 37) (p_).toNat j9) (p_).toNat (Int.tdiv j9 2))) 39 (ua (c 39) (p_).toNat (((c 39 (p_).toNat) / 2))))) _
        refine tt_k 2 (S' := (520, [some (.inr (.inl 30)), some (.inl x), some (.inl y), some (.inl run), some (.inl st), some (.inl p_), some (.inl l6), some (.inl l7), some (.inl l8), some (.inl e), some (.inl mm), some (.inl l11), some (.inl l12)], [.inl ((((c 39 (p_).toNat) / 2) + 1)), .inl p_, .inr (.inl 39)], n, D, s, p, (uc (uc (uc (uc (uc (uc c 44 (ua (c 44) ((((s 3039) + (64 * y)) + x)).toNat r4)) 37 (ua (c 37) (p_).toNat j9)) 36 (ua (c 36) (p_).toNat (((c 36 (p_).toNat) + (((mm + 1) - st) / 2))))) 36 (ua (ua (c 36) (p_).toNat (((c 36 (p_).toNat) + (((mm + 1) - st) / 2)))) (p_).toNat ((((c 36 (p_).toNat) + (((mm + 1) - st) / 2)) / 2)))) 37 (ua (ua (c 37) (p_).toNat j9) (p_).toNat (Int.tdiv j9 2))) 39 (ua (c 39) (p_).toNat (((c 39 (p_).toNat) / 2)))))) rfl ?_
        refine tt_ist (i := p_) (x := (((c 39 (p_).toNat) / 2) + 1)) rfl rfl (by omega) ?_
        show tt Zi d 161 (521, [some (.inr (.inl 30)), some (.inl x), some (.inl y), some (.inl run), some (.inl st), some (.inl p_), some (.inl l6), some (.inl l7), some (.inl l8), some (.inl e), some (.inl mm), some (.inl l11), some (.inl l12)], [], n, D, s, p, (uc (uc (uc (uc (uc (uc (uc c 44 (ua (c 44) ((((s 3039) + (64 * y)) + x)).toNat r4)) 37 (ua (c 37) (p_).toNat j9)) 36 (ua (c 36) (p_).toNat (((c 36 (p_).toNat) + (((mm + 1) - st) / 2))))) 36 (ua (ua (c 36) (p_).toNat (((c 36 (p_).toNat) + (((mm + 1) - st) / 2)))) (p_).toNat ((((c 36 (p_).toNat) + (((mm + 1) - st) / 2)) / 2)))) 37 (ua (ua (c 37) (p_).toNat j9) (p_).toNat (Int.tdiv j9 2))) 39 (ua (c 39) (p_).toNat (((c 39 (p_).toNat) / 2)))) 39 (ua (ua (c 39) (p_).toNat (((c 39 (p_).toNat) / 2))) (p_).toNat ((((c 39 (p_).toNat) / 2) + 1))))) _
        refine tt_k 3 (S' := (526, [some (.inr (.inl 30)), some (.inl x), some (.inl y), some (.inl run), some (.inl st), some (.inl p_), some (.inl l6), some (.inl l7), some (.inl l8), some (.inl e), some (.inl mm), some (.inl l11), some (.inl l12)], [.inl (s 3035), .inr (.inl 30)], n, D, s, p, (uc (uc (uc (uc (uc (uc (uc c 44 (ua (c 44) ((((s 3039) + (64 * y)) + x)).toNat r4)) 37 (ua (c 37) (p_).toNat j9)) 36 (ua (c 36) (p_).toNat (((c 36 (p_).toNat) + (((mm + 1) - st) / 2))))) 36 (ua (ua (c 36) (p_).toNat (((c 36 (p_).toNat) + (((mm + 1) - st) / 2)))) (p_).toNat ((((c 36 (p_).toNat) + (((mm + 1) - st) / 2)) / 2)))) 37 (ua (ua (c 37) (p_).toNat j9) (p_).toNat (Int.tdiv j9 2))) 39 (ua (c 39) (p_).toNat (((c 39 (p_).toNat) / 2)))) 39 (ua (ua (c 39) (p_).toNat (((c 39 (p_).toNat) / 2))) (p_).toNat ((((c 39 (p_).toNat) / 2) + 1)))))) rfl ?_
        have b27 : 0 ≤ (s 3035) ∧ (s 3035) ≤ 31 := hS 3035
        have K29 : ∀ (j28 : Int) , (0 ≤ j28 ∧ j28 ≤ 21) → (0 ≤ j28 ∧ j28 ≤ 22) → (True) → tt Zi d 161 (539, [some (.inr (.inl 30)), some (.inl x), some (.inl y), some (.inl run), some (.inl st), some (.inl p_), some (.inl l6), some (.inl l7), some (.inl l8), some (.inl e), some (.inl mm), some (.inl l11), some (.inl l12)], [.inl j28, .inr (.inl 30)], n, D, s, p, (uc (uc (uc (uc (uc (uc (uc c 44 (ua (c 44) ((((s 3039) + (64 * y)) + x)).toNat r4)) 37 (ua (c 37) (p_).toNat j9)) 36 (ua (c 36) (p_).toNat (((c 36 (p_).toNat) + (((mm + 1) - st) / 2))))) 36 (ua (ua (c 36) (p_).toNat (((c 36 (p_).toNat) + (((mm + 1) - st) / 2)))) (p_).toNat ((((c 36 (p_).toNat) + (((mm + 1) - st) / 2)) / 2)))) 37 (ua (ua (c 37) (p_).toNat j9) (p_).toNat (Int.tdiv j9 2))) 39 (ua (c 39) (p_).toNat (((c 39 (p_).toNat) / 2)))) 39 (ua (ua (c 39) (p_).toNat (((c 39 (p_).toNat) / 2))) (p_).toNat ((((c 39 (p_).toNat) / 2) + 1))))) (fun R H => ∃ (s' : Nat → Int) (c' : Nat → Nat → Int), R = .inl none ∧ H = (n, D, s', p, c') ∧ bS s' ∧ bC D c' ∧ fr s s' [3035] ∧ frc c c' [36, 37, 39, 44] ∧ (s 3050 = 0 → pl s' (t + 1) c') ∧ (s 3050 = 0 → tb (s 3037) (s 3039) (s 3017) (c' 44) (x + 1) y) ∧ (0 ≤ s' 3035 ∧ s' 3035 ≤ 22)) := by
          intro j28 b31 b32 hj30
          refine tt_k 1 (S' := (542, [some (.inr (.inl 30)), some (.inl x), some (.inl y), some (.inl run), some (.inl st), some (.inl p_), some (.inl l6), some (.inl l7), some (.inl l8), some (.inl e), some (.inl mm), some (.inl l11), some (.inl l12)], [], n, D, (us s 3035 j28), p, (uc (uc (uc (uc (uc (uc (uc c 44 (ua (c 44) ((((s 3039) + (64 * y)) + x)).toNat r4)) 37 (ua (c 37) (p_).toNat j9)) 36 (ua (c 36) (p_).toNat (((c 36 (p_).toNat) + (((mm + 1) - st) / 2))))) 36 (ua (ua (c 36) (p_).toNat (((c 36 (p_).toNat) + (((mm + 1) - st) / 2)))) (p_).toNat ((((c 36 (p_).toNat) + (((mm + 1) - st) / 2)) / 2)))) 37 (ua (ua (c 37) (p_).toNat j9) (p_).toNat (Int.tdiv j9 2))) 39 (ua (c 39) (p_).toNat (((c 39 (p_).toNat) / 2)))) 39 (ua (ua (c 39) (p_).toNat (((c 39 (p_).toNat) / 2))) (p_).toNat ((((c 39 (p_).toNat) / 2) + 1)))))) rfl ?_
          have q36 : (uc (uc (uc (uc (uc (uc (uc c 44 (ua (c 44) ((((s 3039) + (64 * y)) + x)).toNat r4)) 37 (ua (c 37) (p_).toNat j9)) 36 (ua (c 36) (p_).toNat (((c 36 (p_).toNat) + (((mm + 1) - st) / 2))))) 36 (ua (ua (c 36) (p_).toNat (((c 36 (p_).toNat) + (((mm + 1) - st) / 2)))) (p_).toNat ((((c 36 (p_).toNat) + (((mm + 1) - st) / 2)) / 2)))) 37 (ua (ua (c 37) (p_).toNat j9) (p_).toNat (Int.tdiv j9 2))) 39 (ua (c 39) (p_).toNat (((c 39 (p_).toNat) / 2)))) 39 (ua (ua (c 39) (p_).toNat (((c 39 (p_).toNat) / 2))) (p_).toNat ((((c 39 (p_).toNat) / 2) + 1)))) 36 (p_).toNat = (((c 36 (p_).toNat) + (((mm + 1) - st) / 2)) / 2) := by show (ua (ua (c 36) (p_).toNat (((c 36 (p_).toNat) + (((mm + 1) - st) / 2)))) (p_).toNat ((((c 36 (p_).toNat) + (((mm + 1) - st) / 2)) / 2))) (p_).toNat = _; exact ua_eq
          have q37 : (uc (uc (uc (uc (uc (uc (uc c 44 (ua (c 44) ((((s 3039) + (64 * y)) + x)).toNat r4)) 37 (ua (c 37) (p_).toNat j9)) 36 (ua (c 36) (p_).toNat (((c 36 (p_).toNat) + (((mm + 1) - st) / 2))))) 36 (ua (ua (c 36) (p_).toNat (((c 36 (p_).toNat) + (((mm + 1) - st) / 2)))) (p_).toNat ((((c 36 (p_).toNat) + (((mm + 1) - st) / 2)) / 2)))) 37 (ua (ua (c 37) (p_).toNat j9) (p_).toNat (Int.tdiv j9 2))) 39 (ua (c 39) (p_).toNat (((c 39 (p_).toNat) / 2)))) 39 (ua (ua (c 39) (p_).toNat (((c 39 (p_).toNat) / 2))) (p_).toNat ((((c 39 (p_).toNat) / 2) + 1)))) 37 (p_).toNat = (Int.tdiv j9 2) := by show (ua (ua (c 37) (p_).toNat j9) (p_).toNat (Int.tdiv j9 2)) (p_).toNat = _; exact ua_eq
          have q39 : (uc (uc (uc (uc (uc (uc (uc c 44 (ua (c 44) ((((s 3039) + (64 * y)) + x)).toNat r4)) 37 (ua (c 37) (p_).toNat j9)) 36 (ua (c 36) (p_).toNat (((c 36 (p_).toNat) + (((mm + 1) - st) / 2))))) 36 (ua (ua (c 36) (p_).toNat (((c 36 (p_).toNat) + (((mm + 1) - st) / 2)))) (p_).toNat ((((c 36 (p_).toNat) + (((mm + 1) - st) / 2)) / 2)))) 37 (ua (ua (c 37) (p_).toNat j9) (p_).toNat (Int.tdiv j9 2))) 39 (ua (c 39) (p_).toNat (((c 39 (p_).toNat) / 2)))) 39 (ua (ua (c 39) (p_).toNat (((c 39 (p_).toNat) / 2))) (p_).toNat ((((c 39 (p_).toNat) / 2) + 1)))) 39 (p_).toNat = (((c 39 (p_).toNat) / 2) + 1) := by show (ua (ua (c 39) (p_).toNat (((c 39 (p_).toNat) / 2))) (p_).toNat ((((c 39 (p_).toNat) / 2) + 1))) (p_).toNat = _; exact ua_eq
          have u36 : ∀ j, j ≠ (p_).toNat → (uc (uc (uc (uc (uc (uc (uc c 44 (ua (c 44) ((((s 3039) + (64 * y)) + x)).toNat r4)) 37 (ua (c 37) (p_).toNat j9)) 36 (ua (c 36) (p_).toNat (((c 36 (p_).toNat) + (((mm + 1) - st) / 2))))) 36 (ua (ua (c 36) (p_).toNat (((c 36 (p_).toNat) + (((mm + 1) - st) / 2)))) (p_).toNat ((((c 36 (p_).toNat) + (((mm + 1) - st) / 2)) / 2)))) 37 (ua (ua (c 37) (p_).toNat j9) (p_).toNat (Int.tdiv j9 2))) 39 (ua (c 39) (p_).toNat (((c 39 (p_).toNat) / 2)))) 39 (ua (ua (c 39) (p_).toNat (((c 39 (p_).toNat) / 2))) (p_).toNat ((((c 39 (p_).toNat) / 2) + 1)))) 36 j = c 36 j := by intro j hj; show (ua (ua (c 36) (p_).toNat (((c 36 (p_).toNat) + (((mm + 1) - st) / 2)))) (p_).toNat ((((c 36 (p_).toNat) + (((mm + 1) - st) / 2)) / 2))) j = _; simp only [ua_ne hj]
          have u37 : ∀ j, j ≠ (p_).toNat → (uc (uc (uc (uc (uc (uc (uc c 44 (ua (c 44) ((((s 3039) + (64 * y)) + x)).toNat r4)) 37 (ua (c 37) (p_).toNat j9)) 36 (ua (c 36) (p_).toNat (((c 36 (p_).toNat) + (((mm + 1) - st) / 2))))) 36 (ua (ua (c 36) (p_).toNat (((c 36 (p_).toNat) + (((mm + 1) - st) / 2)))) (p_).toNat ((((c 36 (p_).toNat) + (((mm + 1) - st) / 2)) / 2)))) 37 (ua (ua (c 37) (p_).toNat j9) (p_).toNat (Int.tdiv j9 2))) 39 (ua (c 39) (p_).toNat (((c 39 (p_).toNat) / 2)))) 39 (ua (ua (c 39) (p_).toNat (((c 39 (p_).toNat) / 2))) (p_).toNat ((((c 39 (p_).toNat) / 2) + 1)))) 37 j = c 37 j := by intro j hj; show (ua (ua (c 37) (p_).toNat j9) (p_).toNat (Int.tdiv j9 2)) j = _; simp only [ua_ne hj]
          have u39 : ∀ j, j ≠ (p_).toNat → (uc (uc (uc (uc (uc (uc (uc c 44 (ua (c 44) ((((s 3039) + (64 * y)) + x)).toNat r4)) 37 (ua (c 37) (p_).toNat j9)) 36 (ua (c 36) (p_).toNat (((c 36 (p_).toNat) + (((mm + 1) - st) / 2))))) 36 (ua (ua (c 36) (p_).toNat (((c 36 (p_).toNat) + (((mm + 1) - st) / 2)))) (p_).toNat ((((c 36 (p_).toNat) + (((mm + 1) - st) / 2)) / 2)))) 37 (ua (ua (c 37) (p_).toNat j9) (p_).toNat (Int.tdiv j9 2))) 39 (ua (c 39) (p_).toNat (((c 39 (p_).toNat) / 2)))) 39 (ua (ua (c 39) (p_).toNat (((c 39 (p_).toNat) / 2))) (p_).toNat ((((c 39 (p_).toNat) / 2) + 1)))) 39 j = c 39 j := by intro j hj; show (ua (ua (c 39) (p_).toNat (((c 39 (p_).toNat) / 2))) (p_).toNat ((((c 39 (p_).toNat) / 2) + 1))) j = _; simp only [ua_ne hj]
          have g36 : (uc (uc (uc (uc (uc (uc (uc c 44 (ua (c 44) ((((s 3039) + (64 * y)) + x)).toNat r4)) 37 (ua (c 37) (p_).toNat j9)) 36 (ua (c 36) (p_).toNat (((c 36 (p_).toNat) + (((mm + 1) - st) / 2))))) 36 (ua (ua (c 36) (p_).toNat (((c 36 (p_).toNat) + (((mm + 1) - st) / 2)))) (p_).toNat ((((c 36 (p_).toNat) + (((mm + 1) - st) / 2)) / 2)))) 37 (ua (ua (c 37) (p_).toNat j9) (p_).toNat (Int.tdiv j9 2))) 39 (ua (c 39) (p_).toNat (((c 39 (p_).toNat) / 2)))) 39 (ua (ua (c 39) (p_).toNat (((c 39 (p_).toNat) / 2))) (p_).toNat ((((c 39 (p_).toNat) / 2) + 1)))) 36 (p_).toNat = if c 39 (p_).toNat = s 3022 then (c 36 (p_).toNat + ((mm + 1 - st) / 2)) / 2 else c 36 (p_).toNat + ((mm + 1 - st) / 2) := by rw [q36]; (try split) <;> omega
          have g39 : (uc (uc (uc (uc (uc (uc (uc c 44 (ua (c 44) ((((s 3039) + (64 * y)) + x)).toNat r4)) 37 (ua (c 37) (p_).toNat j9)) 36 (ua (c 36) (p_).toNat (((c 36 (p_).toNat) + (((mm + 1) - st) / 2))))) 36 (ua (ua (c 36) (p_).toNat (((c 36 (p_).toNat) + (((mm + 1) - st) / 2)))) (p_).toNat ((((c 36 (p_).toNat) + (((mm + 1) - st) / 2)) / 2)))) 37 (ua (ua (c 37) (p_).toNat j9) (p_).toNat (Int.tdiv j9 2))) 39 (ua (c 39) (p_).toNat (((c 39 (p_).toNat) / 2)))) 39 (ua (ua (c 39) (p_).toNat (((c 39 (p_).toNat) / 2))) (p_).toNat ((((c 39 (p_).toNat) / 2) + 1)))) 39 (p_).toNat = (if c 39 (p_).toNat = s 3022 then c 39 (p_).toNat / 2 else c 39 (p_).toNat) + 1 := by rw [q39]; (try split) <;> omega
          have hTB : tb (s 3037) (s 3039) (s 3017) (ua (c 44) ((((s 3039) + (64 * y)) + x)).toNat r4) (x + 1) y := tb_next hp5 (by omega) (by omega) (by omega) (by omega) (by omega)
          exact tt_rtv rfl rfl ⟨(us s 3035 j28), (uc (uc (uc (uc (uc (uc (uc c 44 (ua (c 44) ((((s 3039) + (64 * y)) + x)).toNat r4)) 37 (ua (c 37) (p_).toNat j9)) 36 (ua (c 36) (p_).toNat (((c 36 (p_).toNat) + (((mm + 1) - st) / 2))))) 36 (ua (ua (c 36) (p_).toNat (((c 36 (p_).toNat) + (((mm + 1) - st) / 2)))) (p_).toNat ((((c 36 (p_).toNat) + (((mm + 1) - st) / 2)) / 2)))) 37 (ua (ua (c 37) (p_).toNat j9) (p_).toNat (Int.tdiv j9 2))) 39 (ua (c 39) (p_).toNat (((c 39 (p_).toNat) / 2)))) 39 (ua (ua (c 39) (p_).toNat (((c 39 (p_).toNat) / 2))) (p_).toNat ((((c 39 (p_).toNat) / 2) + 1)))), rfl, rfl, (bS_us hS (show 0 ≤ j28 ∧ j28 ≤ 31 by omega)), (bC_st (bC_st (bC_st (bC_st (bC_st (bC_st (bC_st hC (show 0 ≤ r4 ∧ r4 ≤ 65535 by omega)) (show -2147483648 ≤ j9 ∧ j9 ≤ 2147483647 by omega)) (show -2147483648 ≤ ((c 36 (p_).toNat) + (((mm + 1) - st) / 2)) ∧ ((c 36 (p_).toNat) + (((mm + 1) - st) / 2)) ≤ 2147483647 by omega)) (show -2147483648 ≤ (((c 36 (p_).toNat) + (((mm + 1) - st) / 2)) / 2) ∧ (((c 36 (p_).toNat) + (((mm + 1) - st) / 2)) / 2) ≤ 2147483647 by omega)) (show -2147483648 ≤ (Int.tdiv j9 2) ∧ (Int.tdiv j9 2) ≤ 2147483647 by omega)) (show -2147483648 ≤ ((c 39 (p_).toNat) / 2) ∧ ((c 39 (p_).toNat) / 2) ≤ 2147483647 by omega)) (show -2147483648 ≤ (((c 39 (p_).toNat) / 2) + 1) ∧ (((c 39 (p_).toNat) / 2) + 1) ≤ 2147483647 by omega)), (fr_us (by decide) fr_rf), (frc_uc (by decide) (frc_uc (by decide) (frc_uc (by decide) (frc_uc (by decide) (frc_uc (by decide) (frc_uc (by decide) (frc_uc (by decide) frc_rf))))))), fun _ => pl_next (s := s) (s' := (us s 3035 j28)) hp0 (by omega) hp3 (i := (p_).toNat) (by omega) rfl (E := ((mm + 1 - st) / 2)) (by omega) (by omega) g36 g39 (by rw [q37]; omega) (by show -128 ≤ c 38 (p_).toNat ∧ c 38 (p_).toNat ≤ 127; omega) u36 u37 (fun _ _ => rfl) u39, fun _ => hTB, by show 0 ≤ j28 ∧ j28 ≤ 22; omega⟩
        refine tz_le (x := (s 3035)) rfl rfl (by omega) (fun h33 => ?_) (fun h33 => ?_)
        · show tt Zi d 161 (538, [some (.inr (.inl 30)), some (.inl x), some (.inl y), some (.inl run), some (.inl st), some (.inl p_), some (.inl l6), some (.inl l7), some (.inl l8), some (.inl e), some (.inl mm), some (.inl l11), some (.inl l12)], [.inr (.inl 30)], n, D, s, p, (uc (uc (uc (uc (uc (uc (uc c 44 (ua (c 44) ((((s 3039) + (64 * y)) + x)).toNat r4)) 37 (ua (c 37) (p_).toNat j9)) 36 (ua (c 36) (p_).toNat (((c 36 (p_).toNat) + (((mm + 1) - st) / 2))))) 36 (ua (ua (c 36) (p_).toNat (((c 36 (p_).toNat) + (((mm + 1) - st) / 2)))) (p_).toNat ((((c 36 (p_).toNat) + (((mm + 1) - st) / 2)) / 2)))) 37 (ua (ua (c 37) (p_).toNat j9) (p_).toNat (Int.tdiv j9 2))) 39 (ua (c 39) (p_).toNat (((c 39 (p_).toNat) / 2)))) 39 (ua (ua (c 39) (p_).toNat (((c 39 (p_).toNat) / 2))) (p_).toNat ((((c 39 (p_).toNat) / 2) + 1))))) _
          refine tt_k 1 (S' := (539, [some (.inr (.inl 30)), some (.inl x), some (.inl y), some (.inl run), some (.inl st), some (.inl p_), some (.inl l6), some (.inl l7), some (.inl l8), some (.inl e), some (.inl mm), some (.inl l11), some (.inl l12)], [.inl 0, .inr (.inl 30)], n, D, s, p, (uc (uc (uc (uc (uc (uc (uc c 44 (ua (c 44) ((((s 3039) + (64 * y)) + x)).toNat r4)) 37 (ua (c 37) (p_).toNat j9)) 36 (ua (c 36) (p_).toNat (((c 36 (p_).toNat) + (((mm + 1) - st) / 2))))) 36 (ua (ua (c 36) (p_).toNat (((c 36 (p_).toNat) + (((mm + 1) - st) / 2)))) (p_).toNat ((((c 36 (p_).toNat) + (((mm + 1) - st) / 2)) / 2)))) 37 (ua (ua (c 37) (p_).toNat j9) (p_).toNat (Int.tdiv j9 2))) 39 (ua (c 39) (p_).toNat (((c 39 (p_).toNat) / 2)))) 39 (ua (ua (c 39) (p_).toNat (((c 39 (p_).toNat) / 2))) (p_).toNat ((((c 39 (p_).toNat) / 2) + 1)))))) rfl ?_
          exact K29 0  (by omega) (by omega) (trivial)
        · show tt Zi d 161 (529, [some (.inr (.inl 30)), some (.inl x), some (.inl y), some (.inl run), some (.inl st), some (.inl p_), some (.inl l6), some (.inl l7), some (.inl l8), some (.inl e), some (.inl mm), some (.inl l11), some (.inl l12)], [.inr (.inl 30)], n, D, s, p, (uc (uc (uc (uc (uc (uc (uc c 44 (ua (c 44) ((((s 3039) + (64 * y)) + x)).toNat r4)) 37 (ua (c 37) (p_).toNat j9)) 36 (ua (c 36) (p_).toNat (((c 36 (p_).toNat) + (((mm + 1) - st) / 2))))) 36 (ua (ua (c 36) (p_).toNat (((c 36 (p_).toNat) + (((mm + 1) - st) / 2)))) (p_).toNat ((((c 36 (p_).toNat) + (((mm + 1) - st) / 2)) / 2)))) 37 (ua (ua (c 37) (p_).toNat j9) (p_).toNat (Int.tdiv j9 2))) 39 (ua (c 39) (p_).toNat (((c 39 (p_).toNat) / 2)))) 39 (ua (ua (c 39) (p_).toNat (((c 39 (p_).toNat) / 2))) (p_).toNat ((((c 39 (p_).toNat) / 2) + 1))))) _
          refine tt_k 5 (S' := (539, [some (.inr (.inl 30)), some (.inl x), some (.inl y), some (.inl run), some (.inl st), some (.inl p_), some (.inl l6), some (.inl l7), some (.inl l8), some (.inl e), some (.inl mm), some (.inl l11), some (.inl l12)], [.inl ((s 3035) - 1), .inr (.inl 30)], n, D, s, p, (uc (uc (uc (uc (uc (uc (uc c 44 (ua (c 44) ((((s 3039) + (64 * y)) + x)).toNat r4)) 37 (ua (c 37) (p_).toNat j9)) 36 (ua (c 36) (p_).toNat (((c 36 (p_).toNat) + (((mm + 1) - st) / 2))))) 36 (ua (ua (c 36) (p_).toNat (((c 36 (p_).toNat) + (((mm + 1) - st) / 2)))) (p_).toNat ((((c 36 (p_).toNat) + (((mm + 1) - st) / 2)) / 2)))) 37 (ua (ua (c 37) (p_).toNat j9) (p_).toNat (Int.tdiv j9 2))) 39 (ua (c 39) (p_).toNat (((c 39 (p_).toNat) / 2)))) 39 (ua (ua (c 39) (p_).toNat (((c 39 (p_).toNat) / 2))) (p_).toNat ((((c 39 (p_).toNat) / 2) + 1)))))) rfl ?_
          exact K29 ((s 3035) - 1)  (by omega) (by omega) (trivial)
    refine tz_ge (x := e) rfl rfl (by omega) (fun h34 => ?_) (fun h34 => ?_)
    · show tt Zi d 161 (421, [some (.inr (.inl 30)), some (.inl x), some (.inl y), some (.inl run), some (.inl st), some (.inl p_), some (.inl l6), some (.inl l7), some (.inl l8), some (.inl e), some (.inl mm), some (.inl l11), some (.inl l12)], [.inl p_, .inr (.inl 37)], n, D, s, p, (uc c 44 (ua (c 44) ((((s 3039) + (64 * y)) + x)).toNat r4))) _
      refine tt_k 3 (S' := (427, [some (.inr (.inl 30)), some (.inl x), some (.inl y), some (.inl run), some (.inl st), some (.inl p_), some (.inl l6), some (.inl l7), some (.inl l8), some (.inl e), some (.inl mm), some (.inl l11), some (.inl l12)], [.inl p_, .inr (.inl 37), .inl p_, .inr (.inl 37)], n, D, s, p, (uc c 44 (ua (c 44) ((((s 3039) + (64 * y)) + x)).toNat r4)))) rfl ?_
      refine tt_ildv (i := p_) (v := (c 37 (p_).toNat)) rfl rfl (by omega) rfl ?_
      show tt Zi d 161 (428, [some (.inr (.inl 30)), some (.inl x), some (.inl y), some (.inl run), some (.inl st), some (.inl p_), some (.inl l6), some (.inl l7), some (.inl l8), some (.inl e), some (.inl mm), some (.inl l11), some (.inl l12)], [.inl (c 37 (p_).toNat), .inl p_, .inr (.inl 37)], n, D, s, p, (uc c 44 (ua (c 44) ((((s 3039) + (64 * y)) + x)).toNat r4))) _
      have b35 : -2147483648 ≤ (c 37 (p_).toNat) ∧ (c 37 (p_).toNat) ≤ 2147483647 := hC 37 _
      exact K10 (c 37 (p_).toNat)  (by omega) (by omega) (trivial)
    · show tt Zi d 161 (409, [some (.inr (.inl 30)), some (.inl x), some (.inl y), some (.inl run), some (.inl st), some (.inl p_), some (.inl l6), some (.inl l7), some (.inl l8), some (.inl e), some (.inl mm), some (.inl l11), some (.inl l12)], [.inl p_, .inr (.inl 37)], n, D, s, p, (uc c 44 (ua (c 44) ((((s 3039) + (64 * y)) + x)).toNat r4))) _
      refine tt_k 3 (S' := (415, [some (.inr (.inl 30)), some (.inl x), some (.inl y), some (.inl run), some (.inl st), some (.inl p_), some (.inl l6), some (.inl l7), some (.inl l8), some (.inl e), some (.inl mm), some (.inl l11), some (.inl l12)], [.inl p_, .inr (.inl 37), .inl p_, .inr (.inl 37)], n, D, s, p, (uc c 44 (ua (c 44) ((((s 3039) + (64 * y)) + x)).toNat r4)))) rfl ?_
      refine tt_ildv (i := p_) (v := (c 37 (p_).toNat)) rfl rfl (by omega) rfl ?_
      show tt Zi d 161 (416, [some (.inr (.inl 30)), some (.inl x), some (.inl y), some (.inl run), some (.inl st), some (.inl p_), some (.inl l6), some (.inl l7), some (.inl l8), some (.inl e), some (.inl mm), some (.inl l11), some (.inl l12)], [.inl (c 37 (p_).toNat), .inl p_, .inr (.inl 37)], n, D, s, p, (uc c 44 (ua (c 44) ((((s 3039) + (64 * y)) + x)).toNat r4))) _
      have b36 : -2147483648 ≤ (c 37 (p_).toNat) ∧ (c 37 (p_).toNat) ≤ 2147483647 := hC 37 _
      refine tt_k 3 (S' := (428, [some (.inr (.inl 30)), some (.inl x), some (.inl y), some (.inl run), some (.inl st), some (.inl p_), some (.inl l6), some (.inl l7), some (.inl l8), some (.inl e), some (.inl mm), some (.inl l11), some (.inl l12)], [.inl (((c 37 (p_).toNat) + 1)), .inl p_, .inr (.inl 37)], n, D, s, p, (uc c 44 (ua (c 44) ((((s 3039) + (64 * y)) + x)).toNat r4)))) rfl ?_
      exact K10 (((c 37 (p_).toNat) + 1))  (by omega) (by omega) (trivial)
  · show tt Zi d 161 (375, [some (.inr (.inl 30)), some (.inl x), some (.inl y), some (.inl run), some (.inl st), some (.inl p_), some (.inl l6), some (.inl l7), some (.inl l8), some (.inl e), some (.inl mm), some (.inl l11), some (.inl l12)], [], n, D, s, p, c) _
    exact tt_rtv rfl rfl ⟨s, c, rfl, rfl, hS, hC, fr_rf, frc_rf, by show s 3050 = 0 → pl s (t + 1) c; intro hz; omega, by show s 3050 = 0 → tb (s 3037) (s 3039) (s 3017) ((c 44)) (x + 1) y; intro hz; omega, by show 0 ≤ (s 3035) ∧ (s 3035) ≤ 22; omega⟩
set_option maxRecDepth 100000 in
set_option maxHeartbeats 4000000 in
theorem k_stopRC {Zi : Nat → Option (Nat × (Nat → Int))} {d n : Nat} {D : Nat → Nat × Nat} {s : Nat → Int} {p : Nat → Nat} {c : Nat → Nat → Int} (hd : 5 ≤ d) (hS : bS s) (hC : bC D c) (t : Int) (x : Int) (y : Int) (run : Int) (b_x : 0 ≤ x ∧ x ≤ 63) (b_y : 0 ≤ y ∧ y ≤ 63) (b_run : 0 ≤ run ∧ run ≤ 65535) (hp0 : mv s) (hp1 : s 3036 = 0 ∧ s 3050 = 0 ∧ x < s 3037) (hp2 : run ≤ s 3017) (hp3 : pl s t c) (hp4 : tb (s 3037) (s 3039) (s 3017) (c 44) x y) (hp5 : 0 ≤ t ∧ t ≤ 4095) (hp6 : 0 ≤ s 3035 ∧ s 3035 ≤ 22) (hp7 : 0 ≤ s 3042 ∧ s 3042 ≤ s 3017) : tt Zi d 161 (6, [some (.inr (.inl 30)), some (.inl x), some (.inl y), some (.inl run), none, none, none, none, none, none, none, none, none], [], n, D, s, p, c) (fun R H => ∃ (s' : Nat → Int) (c' : Nat → Nat → Int), R = .inl none ∧ H = (n, D, s', p, c') ∧ bS s' ∧ bC D c' ∧ fr s s' [3035, 3041, 3042, 3043, 3044, 3045, 3046, 3049, 3050, 3051, 3052, 3053, 3054] ∧ frc c c' [36, 37, 39, 44] ∧ (s' 3050 = 0 → pl s' (t + 1) c') ∧ (s' 3050 = 0 → tb (s' 3037) (s' 3039) (s' 3017) (c' 44) (x + 1) y) ∧ (s 3049 ≤ s' 3049) ∧ (s 3049 ≤ 32768 → s' 3049 ≤ 32768) ∧ (0 ≤ s' 3035 ∧ s' 3035 ≤ 22)) := by
  have mvx := mv_fx hp0
  refine tt_k 8 (S' := (20, [some (.inr (.inl 30)), some (.inl x), some (.inl y), some (.inl run), none, none, none, none, none, none, none, none, none], [.inl (run - (s 3042))], n, D, (us s 3041 run), p, c)) rfl ?_
  have b1 : 0 ≤ (s 3042) ∧ (s 3042) ≤ 65535 := hS 3042
  refine tt_cl (by omega) rfl (k_sizeOf (Zi := Zi) (D := D) (s := (us s 3041 run)) (p := p) (c := c) (by omega) (bS_us hS (show 0 ≤ run ∧ run ≤ 65535 by omega)) hC (run - (s 3042)) (by omega)) ?_
  rintro _ _ ⟨r2, rfl, rfl, b3, k4⟩
  show tt Zi d 161 (23, [some (.inr (.inl 30)), some (.inl x), some (.inl y), some (.inl run), none, none, none, none, none, none, none, none, none], [.inl r2], n, D, (us s 3041 run), p, c) _
  replace k4 : r2 = if 0 ≤ (run - (s 3042)) then (run - (s 3042)) else -(run - (s 3042)) := k4
  subst k4
  show tt Zi d 161 (23, [some (.inr (.inl 30)), some (.inl x), some (.inl y), some (.inl run), none, none, none, none, none, none, none, none, none], [.inl ((if 0 ≤ (run - (s 3042)) then (run - (s 3042)) else -(run - (s 3042))))], n, D, (us s 3041 run), p, c) _
  refine tt_k 2 (S' := (27, [some (.inr (.inl 30)), some (.inl x), some (.inl y), some (.inl run), none, none, none, none, none, none, none, none, none], [.inl (s 3018), .inl ((if 0 ≤ (run - (s 3042)) then (run - (s 3042)) else -(run - (s 3042))))], n, D, (us s 3041 run), p, c)) rfl ?_
  have b5 : -2147483648 ≤ (s 3018) ∧ (s 3018) ≤ 2147483647 := hS 3018
  refine tb_gt (x := (if 0 ≤ (run - (s 3042)) then (run - (s 3042)) else -(run - (s 3042)))) (y := (s 3018)) rfl rfl (by omega) (fun h6 => ?_) (fun h6 => ?_)
  · show tt Zi d 161 (34, [some (.inr (.inl 30)), some (.inl x), some (.inl y), some (.inl run), none, none, none, none, none, none, none, none, none], [], n, D, (us s 3041 run), p, c) _
    refine tt_k 6 (S' := (45, [some (.inr (.inl 30)), some (.inl x), some (.inl y), some (.inl run), some (.inl 0), some (.inl 365), none, none, none, none, none, none, none], [], n, D, (us s 3041 run), p, c)) rfl ?_
    have z7 : 0 ≤ run ∧ run ≤ 65535 := by omega
    have z8 : 0 ≤ x ∧ x ≤ 63 := by omega
    have z9 : 0 ≤ y ∧ y ≤ 63 := by omega
    clear b5 b3 b1 h6
    have hi : pli s t c (365 : Int).toNat := hp3 (365 : Int).toNat (by decide)
    have hb := pl_bd hp0 (by omega) hi
    refine tt_k 3 (S' := (49, [some (.inr (.inl 30)), some (.inl x), some (.inl y), some (.inl run), some (.inl 0), some (.inl 365), none, none, none, none, none, none, none], [.inl 1, .inl 0, .inr (.inl 30)], n, D, (us s 3041 run), p, c)) rfl ?_
    have K10 : tt Zi d 161 (63, [some (.inr (.inl 30)), some (.inl x), some (.inl y), some (.inl run), some (.inl 0), some (.inl 365), none, none, none, none, none, none, none], [.inl (s 3042), .inr (.inl 30)], n, D, (us s 3041 run), p, c) (fun R H => ∃ (s' : Nat → Int) (c' : Nat → Nat → Int), R = .inl none ∧ H = (n, D, s', p, c') ∧ bS s' ∧ bC D c' ∧ fr s s' [3035, 3041, 3042, 3043, 3044, 3045, 3046, 3049, 3050, 3051, 3052, 3053, 3054] ∧ frc c c' [36, 37, 39, 44] ∧ (s' 3050 = 0 → pl s' (t + 1) c') ∧ (s' 3050 = 0 → tb (s' 3037) (s' 3039) (s' 3017) (c' 44) (x + 1) y) ∧ (s 3049 ≤ s' 3049) ∧ (s 3049 ≤ 32768 → s' 3049 ≤ 32768) ∧ (0 ≤ s' 3035 ∧ s' 3035 ≤ 22)) := by
      refine tt_k 3 (S' := (69, [some (.inr (.inl 30)), some (.inl x), some (.inl y), some (.inl run), some (.inl 0), some (.inl 365), none, none, none, none, none, none, none], [.inl 0, .inr (.inl 30)], n, D, (us (us s 3041 run) 3045 (s 3042)), p, c)) rfl ?_
      have K13 : ∀ (j12 : Int) , (0 ≤ j12 ∧ j12 ≤ 1) → (True) → tt Zi d 161 (88, [some (.inr (.inl 30)), some (.inl x), some (.inl y), some (.inl run), some (.inl 0), some (.inl 365), none, none, none, none, none, none, none], [.inl j12, .inr (.inl 30)], n, D, (us (us s 3041 run) 3045 (s 3042)), p, c) (fun R H => ∃ (s' : Nat → Int) (c' : Nat → Nat → Int), R = .inl none ∧ H = (n, D, s', p, c') ∧ bS s' ∧ bC D c' ∧ fr s s' [3035, 3041, 3042, 3043, 3044, 3045, 3046, 3049, 3050, 3051, 3052, 3053, 3054] ∧ frc c c' [36, 37, 39, 44] ∧ (s' 3050 = 0 → pl s' (t + 1) c') ∧ (s' 3050 = 0 → tb (s' 3037) (s' 3039) (s' 3017) (c' 44) (x + 1) y) ∧ (s 3049 ≤ s' 3049) ∧ (s 3049 ≤ 32768 → s' 3049 ≤ 32768) ∧ (0 ≤ s' 3035 ∧ s' 3035 ≤ 22)) := by
        intro j12 b15 hj14
        refine tt_ptb (x := j12) rfl rfl rfl rfl rfl (by omega) ?_
        show tt Zi d 161 (91, [some (.inr (.inl 30)), some (.inl x), some (.inl y), some (.inl run), some (.inl 0), some (.inl 365), none, none, none, none, none, none, none], [], n, D, (us (us (us s 3041 run) 3045 (s 3042)) 3046 j12), p, c) _
        refine tt_k 4 (S' := (98, [some (.inr (.inl 30)), some (.inl x), some (.inl y), some (.inl run), some (.inl 0), some (.inl 365), none, none, none, none, none, none, none], [.inl 365, .inr (.inl 36), .inr (.inl 30)], n, D, (us (us (us s 3041 run) 3045 (s 3042)) 3046 j12), p, c)) rfl ?_
        refine tt_ildv (i := 365) (v := (c 36 (365 : Int).toNat)) rfl rfl (by omega) rfl ?_
        show tt Zi d 161 (99, [some (.inr (.inl 30)), some (.inl x), some (.inl y), some (.inl run), some (.inl 0), some (.inl 365), none, none, none, none, none, none, none], [.inl (c 36 (365 : Int).toNat), .inr (.inl 30)], n, D, (us (us (us s 3041 run) 3045 (s 3042)) 3046 j12), p, c) _
        have b16 : -2147483648 ≤ (c 36 (365 : Int).toNat) ∧ (c 36 (365 : Int).toNat) ≤ 2147483647 := hC 36 _
        refine tt_k 2 (S' := (102, [some (.inr (.inl 30)), some (.inl x), some (.inl y), some (.inl run), some (.inl 0), some (.inl 365), none, none, none, none, none, none, none], [.inl 1, .inl 0, .inl (c 36 (365 : Int).toNat), .inr (.inl 30)], n, D, (us (us (us s 3041 run) 3045 (s 3042)) 3046 j12), p, c)) rfl ?_
        have K17 : tt Zi d 161 (118, [some (.inr (.inl 30)), some (.inl x), some (.inl y), some (.inl run), some (.inl 0), some (.inl 365), none, none, none, none, none, none, none], [.inl 0, .inl (c 36 (365 : Int).toNat), .inr (.inl 30)], n, D, (us (us (us s 3041 run) 3045 (s 3042)) 3046 j12), p, c) (fun R H => ∃ (s' : Nat → Int) (c' : Nat → Nat → Int), R = .inl none ∧ H = (n, D, s', p, c') ∧ bS s' ∧ bC D c' ∧ fr s s' [3035, 3041, 3042, 3043, 3044, 3045, 3046, 3049, 3050, 3051, 3052, 3053, 3054] ∧ frc c c' [36, 37, 39, 44] ∧ (s' 3050 = 0 → pl s' (t + 1) c') ∧ (s' 3050 = 0 → tb (s' 3037) (s' 3039) (s' 3017) (c' 44) (x + 1) y) ∧ (s 3049 ≤ s' 3049) ∧ (s 3049 ≤ 32768 → s' 3049 ≤ 32768) ∧ (0 ≤ s' 3035 ∧ s' 3035 ≤ 22)) := by
          refine tt_k 4 (S' := (125, [some (.inr (.inl 30)), some (.inl x), some (.inl y), some (.inl run), some (.inl 0), some (.inl 365), none, none, none, none, none, none, none], [.inl 365, .inr (.inl 39), .inl (((c 36 (365 : Int).toNat) + 0)), .inr (.inl 30)], n, D, (us (us (us s 3041 run) 3045 (s 3042)) 3046 j12), p, c)) rfl ?_
          refine tt_ildv (i := 365) (v := (c 39 (365 : Int).toNat)) rfl rfl (by omega) rfl ?_
          show tt Zi d 161 (126, [some (.inr (.inl 30)), some (.inl x), some (.inl y), some (.inl run), some (.inl 0), some (.inl 365), none, none, none, none, none, none, none], [.inl (c 39 (365 : Int).toNat), .inl (((c 36 (365 : Int).toNat) + 0)), .inr (.inl 30)], n, D, (us (us (us s 3041 run) 3045 (s 3042)) 3046 j12), p, c) _
          have b19 : -2147483648 ≤ (c 39 (365 : Int).toNat) ∧ (c 39 (365 : Int).toNat) ≤ 2147483647 := hC 39 _
          have b20 : 0 ≤ (s 3042) ∧ (s 3042) ≤ 65535 := hS 3042
          refine tt_cl (by omega) rfl (k_exponent (Zi := Zi) (D := D) (s := (us (us (us s 3041 run) 3045 (s 3042)) 3046 j12)) (p := p) (c := c) (by omega) (bS_us (bS_us (bS_us hS (show 0 ≤ run ∧ run ≤ 65535 by omega)) (show -65535 ≤ (s 3042) ∧ (s 3042) ≤ 131070 by omega)) (show 0 ≤ j12 ∧ j12 ≤ 1 by omega)) hC (((c 36 (365 : Int).toNat) + 0)) (c 39 (365 : Int).toNat) (by omega) (by omega)) ?_
          rintro _ _ ⟨r21, rfl, rfl, b22, k23, k24⟩
          show tt Zi d 161 (129, [some (.inr (.inl 30)), some (.inl x), some (.inl y), some (.inl run), some (.inl 0), some (.inl 365), none, none, none, none, none, none, none], [.inl r21], n, D, (us (us (us s 3041 run) 3045 (s 3042)) 3046 j12), p, c) _
          replace k23 : (((c 36 (365 : Int).toNat) + 0)) ≤ (c 39 (365 : Int).toNat) * 2 ^ r21.toNat := k23
          replace k24 : r21 = 0 ∨ (c 39 (365 : Int).toNat) * 2 ^ (r21 - 1).toNat < (((c 36 (365 : Int).toNat) + 0)) := k24
          have hkq := k_le_q (s := s) (t := t) (c := c) (i := (365 : Int).toNat) (S := ((c 36 (365 : Int).toNat) + 0)) (k := r21) hp0 hi (by omega) (by omega) k24
          have z25 : 0 ≤ j12 ∧ j12 ≤ 1 := by omega
          have z26 : 0 ≤ r21 ∧ r21 ≤ 16 := by omega
          have z27 : 0 ≤ run ∧ run ≤ 65535 := by omega
          have z28 : 0 ≤ x ∧ x ≤ 63 := by omega
          have z29 : 0 ≤ y ∧ y ≤ 63 := by omega
          clear b22 k23 k24 b20 b19 b16 b15 hj14 z9 z8 z7
          refine tt_k 2 (S' := (133, [some (.inr (.inl 30)), some (.inl x), some (.inl y), some (.inl run), some (.inl 0), some (.inl 365), some (.inl r21), none, none, none, none, none, none], [.inl r21], n, D, (us (us (us s 3041 run) 3045 (s 3042)) 3046 j12), p, c)) rfl ?_
          have K31 : ∀ (j30 : Int) , (0 ≤ j30 ∧ j30 ≤ 1) → (True) → tt Zi d 161 (160, [some (.inr (.inl 30)), some (.inl x), some (.inl y), some (.inl run), some (.inl 0), some (.inl 365), some (.inl r21), none, none, none, none, none, none], [.inl j30], n, D, (us (us (us s 3041 run) 3045 (s 3042)) 3046 j12), p, c) (fun R H => ∃ (s' : Nat → Int) (c' : Nat → Nat → Int), R = .inl none ∧ H = (n, D, s', p, c') ∧ bS s' ∧ bC D c' ∧ fr s s' [3035, 3041, 3042, 3043, 3044, 3045, 3046, 3049, 3050, 3051, 3052, 3053, 3054] ∧ frc c c' [36, 37, 39, 44] ∧ (s' 3050 = 0 → pl s' (t + 1) c') ∧ (s' 3050 = 0 → tb (s' 3037) (s' 3039) (s' 3017) (c' 44) (x + 1) y) ∧ (s 3049 ≤ s' 3049) ∧ (s 3049 ≤ 32768 → s' 3049 ≤ 32768) ∧ (0 ≤ s' 3035 ∧ s' 3035 ≤ 22)) := by
            intro j30 b33 hj32
            refine tt_k 6 (S' := (169, [some (.inr (.inl 30)), some (.inl x), some (.inl y), some (.inl run), some (.inl 0), some (.inl 365), some (.inl r21), some (.inl j30), none, none, none, none, none], [.inr (.inl 30), .inl ((s 3026) - 1)], n, D, (us (us (us s 3041 run) 3045 (s 3042)) 3046 j12), p, c)) rfl ?_
            have b34 : 0 ≤ (s 3042) ∧ (s 3042) ≤ 65535 := hS 3042
            have b35 : 0 ≤ (s 3035) ∧ (s 3035) ≤ 31 := hS 3035
            refine tt_cl (by omega) rfl (k_piecesJ (Zi := Zi) (D := D) (s := (us (us (us s 3041 run) 3045 (s 3042)) 3046 j12)) (p := p) (c := c) (by omega) (bS_us (bS_us (bS_us hS (show 0 ≤ run ∧ run ≤ 65535 by omega)) (show -65535 ≤ (s 3042) ∧ (s 3042) ≤ 131070 by omega)) (show 0 ≤ j12 ∧ j12 ≤ 1 by omega)) hC (show 0 ≤ (s 3035) ∧ (s 3035) ≤ 22 by omega)) ?_
            rintro _ _ ⟨r36, rfl, rfl, b37, k38⟩
            show tt Zi d 161 (172, [some (.inr (.inl 30)), some (.inl x), some (.inl y), some (.inl run), some (.inl 0), some (.inl 365), some (.inl r21), some (.inl j30), none, none, none, none, none], [.inl r36, .inl ((s 3026) - 1)], n, D, (us (us (us s 3041 run) 3045 (s 3042)) 3046 j12), p, c) _
            replace k38 : r36 = jj ((s 3035)) := k38
            refine tt_k 8 (S' := (185, [some (.inr (.inl 30)), some (.inl x), some (.inl y), some (.inl run), some (.inl 0), some (.inl 365), some (.inl r21), some (.inl j30), some (.inl ((((s 3026) - 1) - r36))), some (.inl 0), some (.inl 0), none, none], [.inl (s 3036)], n, D, (us (us (us s 3041 run) 3045 (s 3042)) 3046 j12), p, c)) rfl ?_
            have b39 : 0 ≤ (s 3036) ∧ (s 3036) ≤ 1 := hS 3036
            refine tz_eq (x := (s 3036)) rfl rfl (by omega) (fun h40 => ?_) (fun h40 => ?_)
            · show tt Zi d 161 (273, [some (.inr (.inl 30)), some (.inl x), some (.inl y), some (.inl run), some (.inl 0), some (.inl 365), some (.inl r21), some (.inl j30), some (.inl ((((s 3026) - 1) - r36))), some (.inl 0), some (.inl 0), none, none], [], n, D, (us (us (us s 3041 run) 3045 (s 3042)) 3046 j12), p, c) _
              refine tt_k 1 (S' := (274, [some (.inr (.inl 30)), some (.inl x), some (.inl y), some (.inl run), some (.inl 0), some (.inl 365), some (.inl r21), some (.inl j30), some (.inl ((((s 3026) - 1) - r36))), some (.inl 0), some (.inl 0), none, none], [.inr (.inl 30)], n, D, (us (us (us s 3041 run) 3045 (s 3042)) 3046 j12), p, c)) rfl ?_
              refine tt_cl (by omega) rfl (k_ready (Zi := Zi) (D := D) (s := (us (us (us s 3041 run) 3045 (s 3042)) 3046 j12)) (p := p) (c := c) (by omega) (bS_us (bS_us (bS_us hS (show 0 ≤ run ∧ run ≤ 65535 by omega)) (show -65535 ≤ (s 3042) ∧ (s 3042) ≤ 131070 by omega)) (show 0 ≤ j12 ∧ j12 ≤ 1 by omega)) hC ) ?_
              rintro _ _ ⟨s41, rfl, rfl, hS41, f42, k43, k44, k45, k46⟩
              have hc47 : mv s41 := mv_fr f42 (by decide) (mv_us (by decide) (mv_us (by decide) (mv_us (by decide) hp0)))
              show tt Zi d 161 (277, [some (.inr (.inl 30)), some (.inl x), some (.inl y), some (.inl run), some (.inl 0), some (.inl 365), some (.inl r21), some (.inl j30), some (.inl ((((s 3026) - 1) - r36))), some (.inl 0), some (.inl 0), none, none], [], n, D, s41, p, c) _
              replace k43 : (s 3049) ≤ (s41 3049) := k43
              replace k44 : (s41 3050) = 0 → 1 ≤ (s41 3054) := k44
              replace k45 : (s 3050) ≠ 0 → (s41 3050) ≠ 0 := k45
              replace k46 : (s 3049) ≤ 32768 → (s41 3049) ≤ 32768 := k46
              have b48 : 0 ≤ (s 3049) ∧ (s 3049) ≤ 32769 := hS 3049
              have b49 : 0 ≤ (s41 3049) ∧ (s41 3049) ≤ 32769 := hS41 3049
              have b50 : 0 ≤ (s41 3050) ∧ (s41 3050) ≤ 8 := hS41 3050
              have b51 : 0 ≤ (s41 3054) ∧ (s41 3054) ≤ 8 := hS41 3054
              have b52 : 0 ≤ (s 3050) ∧ (s 3050) ≤ 8 := hS 3050
              have e53 : s41 3039 = (s 3039) := (f42 3039 (by decide))
              have b54 : 0 ≤ (s41 3039) ∧ (s41 3039) ≤ 8192 := hS41 3039
              have b55 : 0 ≤ (s 3039) ∧ (s 3039) ≤ 8192 := hS 3039
              have e56 : s41 3017 = (s 3017) := (f42 3017 (by decide))
              have b57 : 0 ≤ (s41 3017) ∧ (s41 3017) ≤ 65535 := hS41 3017
              have b58 : 0 ≤ (s 3017) ∧ (s 3017) ≤ 65535 := hS 3017
              have e59 : s41 3024 = (s 3024) := (f42 3024 (by decide))
              have b60 : -2147483648 ≤ (s41 3024) ∧ (s41 3024) ≤ 2147483647 := hS41 3024
              have b61 : -2147483648 ≤ (s 3024) ∧ (s 3024) ≤ 2147483647 := hS 3024
              have e62 : s41 3025 = (s 3025) := (f42 3025 (by decide))
              have b63 : 0 ≤ (s41 3025) ∧ (s41 3025) ≤ 31 := hS41 3025
              have b64 : 0 ≤ (s 3025) ∧ (s 3025) ≤ 31 := hS 3025
              have e65 : s41 3026 = (s 3026) := (f42 3026 (by decide))
              have b66 : 0 ≤ (s41 3026) ∧ (s41 3026) ≤ 96 := hS41 3026
              have b67 : 0 ≤ (s 3026) ∧ (s 3026) ≤ 96 := hS 3026
              have e68 : s41 3037 = (s 3037) := (f42 3037 (by decide))
              have b69 : 0 ≤ (s41 3037) ∧ (s41 3037) ≤ 64 := hS41 3037
              have b70 : 0 ≤ (s 3037) ∧ (s 3037) ≤ 64 := hS 3037
              have e71 : s41 3045 = (s 3042) := (f42 3045 (by decide))
              have b72 : -65535 ≤ (s41 3045) ∧ (s41 3045) ≤ 131070 := hS41 3045
              have e73 : s41 3035 = (s 3035) := (f42 3035 (by decide))
              have b74 : 0 ≤ (s41 3035) ∧ (s41 3035) ≤ 31 := hS41 3035
              have e75 : s41 3036 = (s 3036) := (f42 3036 (by decide))
              have b76 : 0 ≤ (s41 3036) ∧ (s41 3036) ≤ 1 := hS41 3036
              refine tt_k 6 (S' := (288, [some (.inr (.inl 30)), some (.inl x), some (.inl y), some (.inl run), some (.inl 0), some (.inl 365), some (.inl r21), some (.inl j30), some (.inl ((((s 3026) - 1) - r36))), some (.inl 0), some (.inl 0), some (.inl (s41 3053)), none], [.inl ((((s 3026) - 1) - r36)), .inl r21, .inr (.inl 30)], n, D, s41, p, c)) rfl ?_
              refine tt_cl (by omega) rfl (k_number (Zi := Zi) (D := D) (s := s41) (p := p) (c := c) (by omega) hS41 hC r21 ((((s 3026) - 1) - r36)) (by omega) (by omega) (show 0 ≤ ((((s 3026) - 1) - r36)) - (s41 3025) - 1 ∧ ((((s 3026) - 1) - r36)) - (s41 3025) - 1 ≤ 64 ∧ (s41 3025) ≤ 16 by omega)) ?_
              rintro _ _ ⟨s77, r78, rfl, rfl, hS77, f79, b80, k81, k82, k83⟩
              have hc84 : mv s77 := mv_fr f79 (by decide) hc47
              show tt Zi d 161 (291, [some (.inr (.inl 30)), some (.inl x), some (.inl y), some (.inl run), some (.inl 0), some (.inl 365), some (.inl r21), some (.inl j30), some (.inl ((((s 3026) - 1) - r36))), some (.inl 0), some (.inl 0), some (.inl (s41 3053)), none], [.inl r78], n, D, s77, p, c) _
              replace k81 : (s41 3049) ≤ (s77 3049) := k81
              replace k82 : (s41 3050) ≠ 0 → (s77 3050) ≠ 0 := k82
              replace k83 : (s41 3049) ≤ 32768 → (s77 3049) ≤ 32768 := k83
              have b85 : 0 ≤ (s77 3049) ∧ (s77 3049) ≤ 32769 := hS77 3049
              have b86 : 0 ≤ (s77 3050) ∧ (s77 3050) ≤ 8 := hS77 3050
              have e87 : s77 3039 = (s41 3039) := (f79 3039 (by decide))
              have b88 : 0 ≤ (s77 3039) ∧ (s77 3039) ≤ 8192 := hS77 3039
              have e89 : s77 3017 = (s41 3017) := (f79 3017 (by decide))
              have b90 : 0 ≤ (s77 3017) ∧ (s77 3017) ≤ 65535 := hS77 3017
              have e91 : s77 3024 = (s41 3024) := (f79 3024 (by decide))
              have b92 : -2147483648 ≤ (s77 3024) ∧ (s77 3024) ≤ 2147483647 := hS77 3024
              have e93 : s77 3025 = (s41 3025) := (f79 3025 (by decide))
              have b94 : 0 ≤ (s77 3025) ∧ (s77 3025) ≤ 31 := hS77 3025
              have e95 : s77 3026 = (s41 3026) := (f79 3026 (by decide))
              have b96 : 0 ≤ (s77 3026) ∧ (s77 3026) ≤ 96 := hS77 3026
              have e97 : s77 3037 = (s41 3037) := (f79 3037 (by decide))
              have b98 : 0 ≤ (s77 3037) ∧ (s77 3037) ≤ 64 := hS77 3037
              have e99 : s77 3045 = (s41 3045) := (f79 3045 (by decide))
              have b100 : -65535 ≤ (s77 3045) ∧ (s77 3045) ≤ 131070 := hS77 3045
              have e101 : s77 3035 = (s41 3035) := (f79 3035 (by decide))
              have b102 : 0 ≤ (s77 3035) ∧ (s77 3035) ≤ 31 := hS77 3035
              have e103 : s77 3036 = (s41 3036) := (f79 3036 (by decide))
              have b104 : 0 ≤ (s77 3036) ∧ (s77 3036) ≤ 1 := hS77 3036
              refine tt_k 9 (S' := (305, [some (.inr (.inl 30)), some (.inl x), some (.inl y), some (.inl run), some (.inl 0), some (.inl 365), some (.inl r21), some (.inl j30), some (.inl ((((s 3026) - 1) - r36))), some (.inl 0), some (.inl r78), some (.inl (s41 3053)), some (.inl (r78 + 0))], [.inl 2, .inl ((r78 + 0) + 1)], n, D, s77, p, c)) rfl ?_
              refine tt_dvp (x := ((r78 + 0) + 1)) (y := 2) rfl (by omega) ?_
              show tt Zi d 161 (306, [some (.inr (.inl 30)), some (.inl x), some (.inl y), some (.inl run), some (.inl 0), some (.inl 365), some (.inl r21), some (.inl j30), some (.inl ((((s 3026) - 1) - r36))), some (.inl 0), some (.inl r78), some (.inl (s41 3053)), some (.inl (r78 + 0))], [.inl ((((r78 + 0) + 1) / 2))], n, D, s77, p, c) _
              refine tt_k 3 (S' := (311, [some (.inr (.inl 30)), some (.inl x), some (.inl y), some (.inl run), some (.inl 0), some (.inl 365), some (.inl r21), some (.inl j30), some (.inl ((((s 3026) - 1) - r36))), some (.inl ((((r78 + 0) + 1) / 2))), some (.inl r78), some (.inl (s41 3053)), some (.inl (r78 + 0))], [.inl 2, .inl (r78 + 0)], n, D, s77, p, c)) rfl ?_
              refine tt_rmp (x := (r78 + 0)) (y := 2) rfl (by omega) ?_
              show tt Zi d 161 (312, [some (.inr (.inl 30)), some (.inl x), some (.inl y), some (.inl run), some (.inl 0), some (.inl 365), some (.inl r21), some (.inl j30), some (.inl ((((s 3026) - 1) - r36))), some (.inl ((((r78 + 0) + 1) / 2))), some (.inl r78), some (.inl (s41 3053)), some (.inl (r78 + 0))], [.inl ((r78 + 0) % 2)], n, D, s77, p, c) _
              refine tt_k 1 (S' := (313, [some (.inr (.inl 30)), some (.inl x), some (.inl y), some (.inl run), some (.inl 0), some (.inl 365), some (.inl r21), some (.inl j30), some (.inl ((((s 3026) - 1) - r36))), some (.inl ((((r78 + 0) + 1) / 2))), some (.inl r78), some (.inl (s41 3053)), some (.inl (r78 + 0))], [.inl 1, .inl ((r78 + 0) % 2)], n, D, s77, p, c)) rfl ?_
              have K106 : ∀ (j105 : Int) , (0 ≤ j105 ∧ j105 ≤ 1) → (True) → tt Zi d 161 (321, [some (.inr (.inl 30)), some (.inl x), some (.inl y), some (.inl run), some (.inl 0), some (.inl 365), some (.inl r21), some (.inl j30), some (.inl ((((s 3026) - 1) - r36))), some (.inl ((((r78 + 0) + 1) / 2))), some (.inl r78), some (.inl (s41 3053)), some (.inl (r78 + 0))], [.inl j105], n, D, s77, p, c) (fun R H => ∃ (s' : Nat → Int) (c' : Nat → Nat → Int), R = .inl none ∧ H = (n, D, s', p, c') ∧ bS s' ∧ bC D c' ∧ fr s s' [3035, 3041, 3042, 3043, 3044, 3045, 3046, 3049, 3050, 3051, 3052, 3053, 3054] ∧ frc c c' [36, 37, 39, 44] ∧ (s' 3050 = 0 → pl s' (t + 1) c') ∧ (s' 3050 = 0 → tb (s' 3037) (s' 3039) (s' 3017) (c' 44) (x + 1) y) ∧ (s 3049 ≤ s' 3049) ∧ (s 3049 ≤ 32768 → s' 3049 ≤ 32768) ∧ (0 ≤ s' 3035 ∧ s' 3035 ≤ 22)) := by
                intro j105 b108 hj107
                refine tt_k 1 (S' := (323, [some (.inr (.inl 30)), some (.inl x), some (.inl y), some (.inl run), some (.inl 0), some (.inl 365), some (.inl r21), some (.inl j30), some (.inl ((((s 3026) - 1) - r36))), some (.inl ((((r78 + 0) + 1) / 2))), some (.inl r78), some (.inl (s41 3053)), some (.inl (r78 + 0))], [.inl j30, .inl j105], n, D, s77, p, c)) rfl ?_
                have K110 : ∀ (j109 : Int) , (0 ≤ j109 ∧ j109 ≤ 1) → (True) → tt Zi d 161 (331, [some (.inr (.inl 30)), some (.inl x), some (.inl y), some (.inl run), some (.inl 0), some (.inl 365), some (.inl r21), some (.inl j30), some (.inl ((((s 3026) - 1) - r36))), some (.inl ((((r78 + 0) + 1) / 2))), some (.inl r78), some (.inl (s41 3053)), some (.inl (r78 + 0))], [.inl j109, .inl j105], n, D, s77, p, c) (fun R H => ∃ (s' : Nat → Int) (c' : Nat → Nat → Int), R = .inl none ∧ H = (n, D, s', p, c') ∧ bS s' ∧ bC D c' ∧ fr s s' [3035, 3041, 3042, 3043, 3044, 3045, 3046, 3049, 3050, 3051, 3052, 3053, 3054] ∧ frc c c' [36, 37, 39, 44] ∧ (s' 3050 = 0 → pl s' (t + 1) c') ∧ (s' 3050 = 0 → tb (s' 3037) (s' 3039) (s' 3017) (c' 44) (x + 1) y) ∧ (s 3049 ≤ s' 3049) ∧ (s 3049 ≤ 32768 → s' 3049 ≤ 32768) ∧ (0 ≤ s' 3035 ∧ s' 3035 ≤ 22)) := by
                  intro j109 b112 hj111
                  have K114 : ∀ (j113 : Int) , (-536870912 ≤ j113 ∧ j113 ≤ 536870912) → (j113 = (((r78 + 0) + 1) / 2) ∨ j113 = -(((r78 + 0) + 1) / 2)) → (True) → tt Zi d 161 (342, [some (.inr (.inl 30)), some (.inl x), some (.inl y), some (.inl run), some (.inl 0), some (.inl 365), some (.inl r21), some (.inl j30), some (.inl ((((s 3026) - 1) - r36))), some (.inl ((((r78 + 0) + 1) / 2))), some (.inl r78), some (.inl (s41 3053)), some (.inl (r78 + 0))], [.inl j113], n, D, s77, p, c) (fun R H => ∃ (s' : Nat → Int) (c' : Nat → Nat → Int), R = .inl none ∧ H = (n, D, s', p, c') ∧ bS s' ∧ bC D c' ∧ fr s s' [3035, 3041, 3042, 3043, 3044, 3045, 3046, 3049, 3050, 3051, 3052, 3053, 3054] ∧ frc c c' [36, 37, 39, 44] ∧ (s' 3050 = 0 → pl s' (t + 1) c') ∧ (s' 3050 = 0 → tb (s' 3037) (s' 3039) (s' 3017) (c' 44) (x + 1) y) ∧ (s 3049 ≤ s' 3049) ∧ (s 3049 ≤ 32768 → s' 3049 ≤ 32768) ∧ (0 ≤ s' 3035 ∧ s' 3035 ≤ 22)) := by
                    intro j113 b116 b117 hj115
                    refine tt_k 3 (S' := (348, [some (.inr (.inl 30)), some (.inl x), some (.inl y), some (.inl run), some (.inl 0), some (.inl 365), some (.inl r21), some (.inl j30), some (.inl ((((s 3026) - 1) - r36))), some (.inl j113), some (.inl r78), some (.inl (s41 3053)), some (.inl (r78 + 0))], [.inl (s77 3050)], n, D, s77, p, c)) rfl ?_
                    refine tz_ne (x := (s77 3050)) rfl rfl (by omega) (fun h118 => ?_) (fun h118 => ?_)
                    · show tt Zi d 161 (368, [some (.inr (.inl 30)), some (.inl x), some (.inl y), some (.inl run), some (.inl 0), some (.inl 365), some (.inl r21), some (.inl j30), some (.inl ((((s 3026) - 1) - r36))), some (.inl j113), some (.inl r78), some (.inl (s41 3053)), some (.inl (r78 + 0))], [], n, D, s77, p, c) _
                      have aW : (s77 3037) = s 3037 := ((f79 3037 (by decide)).trans (f42 3037 (by decide)))
                      have aB : (s77 3039) = s 3039 := ((f79 3039 (by decide)).trans (f42 3039 (by decide)))
                      have aM : (s77 3017) = s 3017 := ((f79 3017 (by decide)).trans (f42 3017 (by decide)))
                      have aQ : (s77 3025) = s 3025 := ((f79 3025 (by decide)).trans (f42 3025 (by decide)))
                      have b119 : 0 ≤ (s41 3053) ∧ (s41 3053) ≤ 32768 := hS41 3053
                      refine tt_mono (k_stopR2 (Zi := Zi) (D := D) (s := s77) (p := p) (c := c) (by omega) hS77 hC t x y run 0 365 r21 j30 ((((s 3026) - 1) - r36)) j113 r78 (s41 3053) (r78 + 0) (by omega) (by omega) (by omega) (by omega) (by omega) (by omega) (by omega) hc84 (show x < (s77 3037) by omega) (show 0 ≤ (s77 3045) ∧ (s77 3045) ≤ (s77 3017) by omega) (pl_eq aQ rfl rfl rfl rfl hp3) (show 0 ≤ t ∧ t ≤ 4095 by omega) (by rw [aW, aB, aM]; exact hp4) (show (s77 3050) = 0 → -((s77 3024) / 2) ≤ j113 ∧ j113 ≤ ((s77 3024) - 1) / 2 ∧ r78 ≤ (s77 3024) by omega) (by decide) (show 0 ≤ (s77 3035) ∧ (s77 3035) ≤ 22 by omega)) ?_
                      rintro _ _ ⟨s120, c121, rfl, rfl, hS120, hC121, f122, g123, k124, k125, k126⟩
                      have hFA : s120 3050 = (s77 3050) := f122 3050 (by decide)
                      have hAT : s120 3049 = (s77 3049) := f122 3049 (by decide)
                      have zW : s120 3037 = s77 3037 := f122 3037 (by decide)
                      have zB : s120 3039 = s77 3039 := f122 3039 (by decide)
                      have zM : s120 3017 = s77 3017 := f122 3017 (by decide)
                      exact ⟨s120, c121, rfl, rfl, hS120, hC121, (fr_tr (fr_tr (fr_tr (fr_us (by decide) (fr_us (by decide) (fr_us (by decide) fr_rf))) f42 (by decide)) f79 (by decide)) f122 (by decide)), (frc_tr frc_rf g123 (by decide)), fun hz => k124 (hFA ▸ hz), by show (s120 3050) = 0 → tb ((s120 3037)) ((s120 3039)) ((s120 3017)) ((c121 44)) (x + 1) y; rw [zW, zB, zM]; exact fun hz => k125 (hFA ▸ hz), by show s 3049 ≤ (s120 3049); omega, by show s 3049 ≤ 32768 → (s120 3049) ≤ 32768; omega, k126⟩
                    · show tt Zi d 161 (351, [some (.inr (.inl 30)), some (.inl x), some (.inl y), some (.inl run), some (.inl 0), some (.inl 365), some (.inl r21), some (.inl j30), some (.inl ((((s 3026) - 1) - r36))), some (.inl j113), some (.inl r78), some (.inl (s41 3053)), some (.inl (r78 + 0))], [], n, D, s77, p, c) _
                      refine tt_k 2 (S' := (354, [some (.inr (.inl 30)), some (.inl x), some (.inl y), some (.inl run), some (.inl 0), some (.inl 365), some (.inl r21), some (.inl j30), some (.inl ((((s 3026) - 1) - r36))), some (.inl j113), some (.inl r78), some (.inl (s41 3053)), some (.inl (r78 + 0))], [.inl j113, .inr (.inl 30)], n, D, s77, p, c)) rfl ?_
                      refine tt_cl (by omega) rfl (k_isError (Zi := Zi) (D := D) (s := s77) (p := p) (c := c) (by omega) hS77 hC j113 (by omega) (show 1 ≤ (s77 3024) ∧ (s77 3024) ≤ 65536 by omega)) ?_
                      rintro _ _ ⟨r127, rfl, rfl, b128, k129⟩
                      show tt Zi d 161 (357, [some (.inr (.inl 30)), some (.inl x), some (.inl y), some (.inl run), some (.inl 0), some (.inl 365), some (.inl r21), some (.inl j30), some (.inl ((((s 3026) - 1) - r36))), some (.inl j113), some (.inl r78), some (.inl (s41 3053)), some (.inl (r78 + 0))], [.inl r127], n, D, s77, p, c) _
                      replace k129 : (r127 = 1 ∧ -((s77 3024) / 2) ≤ j113 ∧ j113 ≤ ((s77 3024) - 1) / 2) ∨ (r127 = 0 ∧ ¬ (-((s77 3024) / 2) ≤ j113 ∧ j113 ≤ ((s77 3024) - 1) / 2)) := k129
                      refine tz_ne (x := r127) rfl rfl (by omega) (fun h130 => ?_) (fun h130 => ?_)
                      · show tt Zi d 161 (368, [some (.inr (.inl 30)), some (.inl x), some (.inl y), some (.inl run), some (.inl 0), some (.inl 365), some (.inl r21), some (.inl j30), some (.inl ((((s 3026) - 1) - r36))), some (.inl j113), some (.inl r78), some (.inl (s41 3053)), some (.inl (r78 + 0))], [], n, D, s77, p, c) _
                        have aW : (s77 3037) = s 3037 := ((f79 3037 (by decide)).trans (f42 3037 (by decide)))
                        have aB : (s77 3039) = s 3039 := ((f79 3039 (by decide)).trans (f42 3039 (by decide)))
                        have aM : (s77 3017) = s 3017 := ((f79 3017 (by decide)).trans (f42 3017 (by decide)))
                        have aQ : (s77 3025) = s 3025 := ((f79 3025 (by decide)).trans (f42 3025 (by decide)))
                        have b131 : 0 ≤ (s41 3053) ∧ (s41 3053) ≤ 32768 := hS41 3053
                        refine tt_mono (k_stopR2 (Zi := Zi) (D := D) (s := s77) (p := p) (c := c) (by omega) hS77 hC t x y run 0 365 r21 j30 ((((s 3026) - 1) - r36)) j113 r78 (s41 3053) (r78 + 0) (by omega) (by omega) (by omega) (by omega) (by omega) (by omega) (by omega) hc84 (show x < (s77 3037) by omega) (show 0 ≤ (s77 3045) ∧ (s77 3045) ≤ (s77 3017) by omega) (pl_eq aQ rfl rfl rfl rfl hp3) (show 0 ≤ t ∧ t ≤ 4095 by omega) (by rw [aW, aB, aM]; exact hp4) (show (s77 3050) = 0 → -((s77 3024) / 2) ≤ j113 ∧ j113 ≤ ((s77 3024) - 1) / 2 ∧ r78 ≤ (s77 3024) by omega) (by decide) (show 0 ≤ (s77 3035) ∧ (s77 3035) ≤ 22 by omega)) ?_
                        rintro _ _ ⟨s132, c133, rfl, rfl, hS132, hC133, f134, g135, k136, k137, k138⟩
                        have hFA : s132 3050 = (s77 3050) := f134 3050 (by decide)
                        have hAT : s132 3049 = (s77 3049) := f134 3049 (by decide)
                        have zW : s132 3037 = s77 3037 := f134 3037 (by decide)
                        have zB : s132 3039 = s77 3039 := f134 3039 (by decide)
                        have zM : s132 3017 = s77 3017 := f134 3017 (by decide)
                        exact ⟨s132, c133, rfl, rfl, hS132, hC133, (fr_tr (fr_tr (fr_tr (fr_us (by decide) (fr_us (by decide) (fr_us (by decide) fr_rf))) f42 (by decide)) f79 (by decide)) f134 (by decide)), (frc_tr frc_rf g135 (by decide)), fun hz => k136 (hFA ▸ hz), by show (s132 3050) = 0 → tb ((s132 3037)) ((s132 3039)) ((s132 3017)) ((c133 44)) (x + 1) y; rw [zW, zB, zM]; exact fun hz => k137 (hFA ▸ hz), by show s 3049 ≤ (s132 3049); omega, by show s 3049 ≤ 32768 → (s132 3049) ≤ 32768; omega, k138⟩
                      · show tt Zi d 161 (360, [some (.inr (.inl 30)), some (.inl x), some (.inl y), some (.inl run), some (.inl 0), some (.inl 365), some (.inl r21), some (.inl j30), some (.inl ((((s 3026) - 1) - r36))), some (.inl j113), some (.inl r78), some (.inl (s41 3053)), some (.inl (r78 + 0))], [], n, D, s77, p, c) _
                        refine tt_k 3 (S' := (365, [some (.inr (.inl 30)), some (.inl x), some (.inl y), some (.inl run), some (.inl 0), some (.inl 365), some (.inl r21), some (.inl j30), some (.inl ((((s 3026) - 1) - r36))), some (.inl j113), some (.inl r78), some (.inl (s41 3053)), some (.inl (r78 + 0))], [.inl (s41 3053), .inl 7, .inr (.inl 30)], n, D, s77, p, c)) rfl ?_
                        have b139 : 0 ≤ (s41 3053) ∧ (s41 3053) ≤ 32768 := hS41 3053
                        refine tt_cl (by omega) rfl (k_fail (Zi := Zi) (D := D) (s := s77) (p := p) (c := c) (by omega) hS77 hC 7 (s41 3053) (by omega) (by omega)) ?_
                        rintro _ _ ⟨s140, rfl, rfl, hS140, f141, k142, k143⟩
                        have hc144 : mv s140 := mv_fr f141 (by decide) hc84
                        show tt Zi d 161 (368, [some (.inr (.inl 30)), some (.inl x), some (.inl y), some (.inl run), some (.inl 0), some (.inl 365), some (.inl r21), some (.inl j30), some (.inl ((((s 3026) - 1) - r36))), some (.inl j113), some (.inl r78), some (.inl (s41 3053)), some (.inl (r78 + 0))], [], n, D, s140, p, c) _
                        replace k142 : ((s77 3050) = 0 → (s140 3050) = 7 ∧ (s140 3051) = (s41 3053)) := k142
                        replace k143 : ((s77 3050) ≠ 0 → (s140 3050) = (s77 3050) ∧ (s140 3051) = (s77 3051)) := k143
                        have b145 : 0 ≤ (s140 3050) ∧ (s140 3050) ≤ 8 := hS140 3050
                        have b146 : -1 ≤ (s140 3051) ∧ (s140 3051) ≤ 32769 := hS140 3051
                        have b147 : -1 ≤ (s77 3051) ∧ (s77 3051) ≤ 32769 := hS77 3051
                        have e148 : s140 3039 = (s77 3039) := (f141 3039 (by decide))
                        have b149 : 0 ≤ (s140 3039) ∧ (s140 3039) ≤ 8192 := hS140 3039
                        have e150 : s140 3017 = (s77 3017) := (f141 3017 (by decide))
                        have b151 : 0 ≤ (s140 3017) ∧ (s140 3017) ≤ 65535 := hS140 3017
                        have e152 : s140 3024 = (s77 3024) := (f141 3024 (by decide))
                        have b153 : -2147483648 ≤ (s140 3024) ∧ (s140 3024) ≤ 2147483647 := hS140 3024
                        have e154 : s140 3025 = (s77 3025) := (f141 3025 (by decide))
                        have b155 : 0 ≤ (s140 3025) ∧ (s140 3025) ≤ 31 := hS140 3025
                        have e156 : s140 3026 = (s77 3026) := (f141 3026 (by decide))
                        have b157 : 0 ≤ (s140 3026) ∧ (s140 3026) ≤ 96 := hS140 3026
                        have e158 : s140 3037 = (s77 3037) := (f141 3037 (by decide))
                        have b159 : 0 ≤ (s140 3037) ∧ (s140 3037) ≤ 64 := hS140 3037
                        have e160 : s140 3045 = (s77 3045) := (f141 3045 (by decide))
                        have b161 : -65535 ≤ (s140 3045) ∧ (s140 3045) ≤ 131070 := hS140 3045
                        have e162 : s140 3035 = (s77 3035) := (f141 3035 (by decide))
                        have b163 : 0 ≤ (s140 3035) ∧ (s140 3035) ≤ 31 := hS140 3035
                        have e164 : s140 3049 = (s77 3049) := (f141 3049 (by decide))
                        have b165 : 0 ≤ (s140 3049) ∧ (s140 3049) ≤ 32769 := hS140 3049
                        have e166 : s140 3036 = (s77 3036) := (f141 3036 (by decide))
                        have b167 : 0 ≤ (s140 3036) ∧ (s140 3036) ≤ 1 := hS140 3036
                        have aW : (s140 3037) = s 3037 := ((f141 3037 (by decide)).trans ((f79 3037 (by decide)).trans (f42 3037 (by decide))))
                        have aB : (s140 3039) = s 3039 := ((f141 3039 (by decide)).trans ((f79 3039 (by decide)).trans (f42 3039 (by decide))))
                        have aM : (s140 3017) = s 3017 := ((f141 3017 (by decide)).trans ((f79 3017 (by decide)).trans (f42 3017 (by decide))))
                        have aQ : (s140 3025) = s 3025 := ((f141 3025 (by decide)).trans ((f79 3025 (by decide)).trans (f42 3025 (by decide))))
                        refine tt_mono (k_stopR2 (Zi := Zi) (D := D) (s := s140) (p := p) (c := c) (by omega) hS140 hC t x y run 0 365 r21 j30 ((((s 3026) - 1) - r36)) j113 r78 (s41 3053) (r78 + 0) (by omega) (by omega) (by omega) (by omega) (by omega) (by omega) (by omega) hc144 (show x < (s140 3037) by omega) (show 0 ≤ (s140 3045) ∧ (s140 3045) ≤ (s140 3017) by omega) (pl_eq aQ rfl rfl rfl rfl hp3) (show 0 ≤ t ∧ t ≤ 4095 by omega) (by rw [aW, aB, aM]; exact hp4) (show (s140 3050) = 0 → -((s140 3024) / 2) ≤ j113 ∧ j113 ≤ ((s140 3024) - 1) / 2 ∧ r78 ≤ (s140 3024) by omega) (by decide) (show 0 ≤ (s140 3035) ∧ (s140 3035) ≤ 22 by omega)) ?_
                        rintro _ _ ⟨s168, c169, rfl, rfl, hS168, hC169, f170, g171, k172, k173, k174⟩
                        have hFA : s168 3050 = (s140 3050) := f170 3050 (by decide)
                        have hAT : s168 3049 = (s140 3049) := f170 3049 (by decide)
                        have zW : s168 3037 = s140 3037 := f170 3037 (by decide)
                        have zB : s168 3039 = s140 3039 := f170 3039 (by decide)
                        have zM : s168 3017 = s140 3017 := f170 3017 (by decide)
                        exact ⟨s168, c169, rfl, rfl, hS168, hC169, (fr_tr (fr_tr (fr_tr (fr_tr (fr_us (by decide) (fr_us (by decide) (fr_us (by decide) fr_rf))) f42 (by decide)) f79 (by decide)) f141 (by decide)) f170 (by decide)), (frc_tr frc_rf g171 (by decide)), fun hz => k172 (hFA ▸ hz), by show (s168 3050) = 0 → tb ((s168 3037)) ((s168 3039)) ((s168 3017)) ((c169 44)) (x + 1) y; rw [zW, zB, zM]; exact fun hz => k173 (hFA ▸ hz), by show s 3049 ≤ (s168 3049); omega, by show s 3049 ≤ 32768 → (s168 3049) ≤ 32768; omega, k174⟩
                  refine tb_ne (x := j105) (y := j109) rfl rfl (by omega) (fun h175 => ?_) (fun h175 => ?_)
                  · show tt Zi d 161 (340, [some (.inr (.inl 30)), some (.inl x), some (.inl y), some (.inl run), some (.inl 0), some (.inl 365), some (.inl r21), some (.inl j30), some (.inl ((((s 3026) - 1) - r36))), some (.inl ((((r78 + 0) + 1) / 2))), some (.inl r78), some (.inl (s41 3053)), some (.inl (r78 + 0))], [], n, D, s77, p, c) _
                    refine tt_k 1 (S' := (342, [some (.inr (.inl 30)), some (.inl x), some (.inl y), some (.inl run), some (.inl 0), some (.inl 365), some (.inl r21), some (.inl j30), some (.inl ((((s 3026) - 1) - r36))), some (.inl ((((r78 + 0) + 1) / 2))), some (.inl r78), some (.inl (s41 3053)), some (.inl (r78 + 0))], [.inl ((((r78 + 0) + 1) / 2))], n, D, s77, p, c)) rfl ?_
                    exact K114 ((((r78 + 0) + 1) / 2))  (by omega) (by omega) (trivial)
                  · show tt Zi d 161 (334, [some (.inr (.inl 30)), some (.inl x), some (.inl y), some (.inl run), some (.inl 0), some (.inl 365), some (.inl r21), some (.inl j30), some (.inl ((((s 3026) - 1) - r36))), some (.inl ((((r78 + 0) + 1) / 2))), some (.inl r78), some (.inl (s41 3053)), some (.inl (r78 + 0))], [], n, D, s77, p, c) _
                    refine tt_k 3 (S' := (342, [some (.inr (.inl 30)), some (.inl x), some (.inl y), some (.inl run), some (.inl 0), some (.inl 365), some (.inl r21), some (.inl j30), some (.inl ((((s 3026) - 1) - r36))), some (.inl ((((r78 + 0) + 1) / 2))), some (.inl r78), some (.inl (s41 3053)), some (.inl (r78 + 0))], [.inl ((-(((r78 + 0) + 1) / 2)))], n, D, s77, p, c)) rfl ?_
                    exact K114 ((-(((r78 + 0) + 1) / 2)))  (by omega) (by omega) (trivial)
                refine tz_ne (x := j30) rfl rfl (by omega) (fun h176 => ?_) (fun h176 => ?_)
                · show tt Zi d 161 (330, [some (.inr (.inl 30)), some (.inl x), some (.inl y), some (.inl run), some (.inl 0), some (.inl 365), some (.inl r21), some (.inl j30), some (.inl ((((s 3026) - 1) - r36))), some (.inl ((((r78 + 0) + 1) / 2))), some (.inl r78), some (.inl (s41 3053)), some (.inl (r78 + 0))], [.inl j105], n, D, s77, p, c) _
                  refine tt_k 1 (S' := (331, [some (.inr (.inl 30)), some (.inl x), some (.inl y), some (.inl run), some (.inl 0), some (.inl 365), some (.inl r21), some (.inl j30), some (.inl ((((s 3026) - 1) - r36))), some (.inl ((((r78 + 0) + 1) / 2))), some (.inl r78), some (.inl (s41 3053)), some (.inl (r78 + 0))], [.inl 0, .inl j105], n, D, s77, p, c)) rfl ?_
                  exact K110 0  (by omega) (trivial)
                · show tt Zi d 161 (326, [some (.inr (.inl 30)), some (.inl x), some (.inl y), some (.inl run), some (.inl 0), some (.inl 365), some (.inl r21), some (.inl j30), some (.inl ((((s 3026) - 1) - r36))), some (.inl ((((r78 + 0) + 1) / 2))), some (.inl r78), some (.inl (s41 3053)), some (.inl (r78 + 0))], [.inl j105], n, D, s77, p, c) _
                  refine tt_k 2 (S' := (331, [some (.inr (.inl 30)), some (.inl x), some (.inl y), some (.inl run), some (.inl 0), some (.inl 365), some (.inl r21), some (.inl j30), some (.inl ((((s 3026) - 1) - r36))), some (.inl ((((r78 + 0) + 1) / 2))), some (.inl r78), some (.inl (s41 3053)), some (.inl (r78 + 0))], [.inl 1, .inl j105], n, D, s77, p, c)) rfl ?_
                  exact K110 1  (by omega) (trivial)
              refine tb_ne (x := ((r78 + 0) % 2)) (y := 1) rfl rfl (by omega) (fun h177 => ?_) (fun h177 => ?_)
              · show tt Zi d 161 (320, [some (.inr (.inl 30)), some (.inl x), some (.inl y), some (.inl run), some (.inl 0), some (.inl 365), some (.inl r21), some (.inl j30), some (.inl ((((s 3026) - 1) - r36))), some (.inl ((((r78 + 0) + 1) / 2))), some (.inl r78), some (.inl (s41 3053)), some (.inl (r78 + 0))], [], n, D, s77, p, c) _
                refine tt_k 1 (S' := (321, [some (.inr (.inl 30)), some (.inl x), some (.inl y), some (.inl run), some (.inl 0), some (.inl 365), some (.inl r21), some (.inl j30), some (.inl ((((s 3026) - 1) - r36))), some (.inl ((((r78 + 0) + 1) / 2))), some (.inl r78), some (.inl (s41 3053)), some (.inl (r78 + 0))], [.inl 0], n, D, s77, p, c)) rfl ?_
                exact K106 0  (by omega) (trivial)
              · show tt Zi d 161 (316, [some (.inr (.inl 30)), some (.inl x), some (.inl y), some (.inl run), some (.inl 0), some (.inl 365), some (.inl r21), some (.inl j30), some (.inl ((((s 3026) - 1) - r36))), some (.inl ((((r78 + 0) + 1) / 2))), some (.inl r78), some (.inl (s41 3053)), some (.inl (r78 + 0))], [], n, D, s77, p, c) _
                refine tt_k 2 (S' := (321, [some (.inr (.inl 30)), some (.inl x), some (.inl y), some (.inl run), some (.inl 0), some (.inl 365), some (.inl r21), some (.inl j30), some (.inl ((((s 3026) - 1) - r36))), some (.inl ((((r78 + 0) + 1) / 2))), some (.inl r78), some (.inl (s41 3053)), some (.inl (r78 + 0))], [.inl 1], n, D, s77, p, c)) rfl ?_
                exact K106 1  (by omega) (trivial)
            · exfalso; omega
          refine tz_ne (x := r21) rfl rfl (by omega) (fun h178 => ?_) (fun h178 => ?_)
          · show tt Zi d 161 (159, [some (.inr (.inl 30)), some (.inl x), some (.inl y), some (.inl run), some (.inl 0), some (.inl 365), some (.inl r21), none, none, none, none, none, none], [], n, D, (us (us (us s 3041 run) 3045 (s 3042)) 3046 j12), p, c) _
            refine tt_k 1 (S' := (160, [some (.inr (.inl 30)), some (.inl x), some (.inl y), some (.inl run), some (.inl 0), some (.inl 365), some (.inl r21), none, none, none, none, none, none], [.inl 0], n, D, (us (us (us s 3041 run) 3045 (s 3042)) 3046 j12), p, c)) rfl ?_
            exact K31 0  (by omega) (trivial)
          · show tt Zi d 161 (136, [some (.inr (.inl 30)), some (.inl x), some (.inl y), some (.inl run), some (.inl 0), some (.inl 365), some (.inl r21), none, none, none, none, none, none], [], n, D, (us (us (us s 3041 run) 3045 (s 3042)) 3046 j12), p, c) _
            refine tt_k 4 (S' := (143, [some (.inr (.inl 30)), some (.inl x), some (.inl y), some (.inl run), some (.inl 0), some (.inl 365), some (.inl r21), none, none, none, none, none, none], [.inl 365, .inr (.inl 37), .inl 2], n, D, (us (us (us s 3041 run) 3045 (s 3042)) 3046 j12), p, c)) rfl ?_
            refine tt_ildv (i := 365) (v := (c 37 (365 : Int).toNat)) rfl rfl (by omega) rfl ?_
            show tt Zi d 161 (144, [some (.inr (.inl 30)), some (.inl x), some (.inl y), some (.inl run), some (.inl 0), some (.inl 365), some (.inl r21), none, none, none, none, none, none], [.inl (c 37 (365 : Int).toNat), .inl 2], n, D, (us (us (us s 3041 run) 3045 (s 3042)) 3046 j12), p, c) _
            have b179 : -2147483648 ≤ (c 37 (365 : Int).toNat) ∧ (c 37 (365 : Int).toNat) ≤ 2147483647 := hC 37 _
            refine tt_k 4 (S' := (151, [some (.inr (.inl 30)), some (.inl x), some (.inl y), some (.inl run), some (.inl 0), some (.inl 365), some (.inl r21), none, none, none, none, none, none], [.inl 365, .inr (.inl 39), .inl ((2 * (c 37 (365 : Int).toNat)))], n, D, (us (us (us s 3041 run) 3045 (s 3042)) 3046 j12), p, c)) rfl ?_
            refine tt_ildv (i := 365) (v := (c 39 (365 : Int).toNat)) rfl rfl (by omega) rfl ?_
            show tt Zi d 161 (152, [some (.inr (.inl 30)), some (.inl x), some (.inl y), some (.inl run), some (.inl 0), some (.inl 365), some (.inl r21), none, none, none, none, none, none], [.inl (c 39 (365 : Int).toNat), .inl ((2 * (c 37 (365 : Int).toNat)))], n, D, (us (us (us s 3041 run) 3045 (s 3042)) 3046 j12), p, c) _
            have b180 : -2147483648 ≤ (c 39 (365 : Int).toNat) ∧ (c 39 (365 : Int).toNat) ≤ 2147483647 := hC 39 _
            refine tb_ge (x := (2 * (c 37 (365 : Int).toNat))) (y := (c 39 (365 : Int).toNat)) rfl rfl (by omega) (fun h181 => ?_) (fun h181 => ?_)
            · show tt Zi d 161 (159, [some (.inr (.inl 30)), some (.inl x), some (.inl y), some (.inl run), some (.inl 0), some (.inl 365), some (.inl r21), none, none, none, none, none, none], [], n, D, (us (us (us s 3041 run) 3045 (s 3042)) 3046 j12), p, c) _
              refine tt_k 1 (S' := (160, [some (.inr (.inl 30)), some (.inl x), some (.inl y), some (.inl run), some (.inl 0), some (.inl 365), some (.inl r21), none, none, none, none, none, none], [.inl 0], n, D, (us (us (us s 3041 run) 3045 (s 3042)) 3046 j12), p, c)) rfl ?_
              exact K31 0  (by omega) (trivial)
            · show tt Zi d 161 (155, [some (.inr (.inl 30)), some (.inl x), some (.inl y), some (.inl run), some (.inl 0), some (.inl 365), some (.inl r21), none, none, none, none, none, none], [], n, D, (us (us (us s 3041 run) 3045 (s 3042)) 3046 j12), p, c) _
              refine tt_k 2 (S' := (160, [some (.inr (.inl 30)), some (.inl x), some (.inl y), some (.inl run), some (.inl 0), some (.inl 365), some (.inl r21), none, none, none, none, none, none], [.inl 1], n, D, (us (us (us s 3041 run) 3045 (s 3042)) 3046 j12), p, c)) rfl ?_
              exact K31 1  (by omega) (trivial)
        refine tb_ne (x := 0) (y := 1) rfl rfl (by omega) (fun h182 => ?_) (fun h182 => ?_)
        · show tt Zi d 161 (117, [some (.inr (.inl 30)), some (.inl x), some (.inl y), some (.inl run), some (.inl 0), some (.inl 365), none, none, none, none, none, none, none], [.inl (c 36 (365 : Int).toNat), .inr (.inl 30)], n, D, (us (us (us s 3041 run) 3045 (s 3042)) 3046 j12), p, c) _
          refine tt_k 1 (S' := (118, [some (.inr (.inl 30)), some (.inl x), some (.inl y), some (.inl run), some (.inl 0), some (.inl 365), none, none, none, none, none, none, none], [.inl 0, .inl (c 36 (365 : Int).toNat), .inr (.inl 30)], n, D, (us (us (us s 3041 run) 3045 (s 3042)) 3046 j12), p, c)) rfl ?_
          exact K17
        · exfalso; omega
      refine tz_ne (x := 0) rfl rfl (by omega) (fun h183 => ?_) (fun h183 => ?_)
      · exfalso; omega
      · show tt Zi d 161 (72, [some (.inr (.inl 30)), some (.inl x), some (.inl y), some (.inl run), some (.inl 0), some (.inl 365), none, none, none, none, none, none, none], [.inr (.inl 30)], n, D, (us (us s 3041 run) 3045 (s 3042)), p, c) _
        refine tt_k 4 (S' := (80, [some (.inr (.inl 30)), some (.inl x), some (.inl y), some (.inl run), some (.inl 0), some (.inl 365), none, none, none, none, none, none, none], [.inl (s 3042), .inl run, .inr (.inl 30)], n, D, (us (us s 3041 run) 3045 (s 3042)), p, c)) rfl ?_
        have b184 : 0 ≤ (s 3042) ∧ (s 3042) ≤ 65535 := hS 3042
        refine tb_le (x := run) (y := (s 3042)) rfl rfl (by omega) (fun h185 => ?_) (fun h185 => ?_)
        · show tt Zi d 161 (87, [some (.inr (.inl 30)), some (.inl x), some (.inl y), some (.inl run), some (.inl 0), some (.inl 365), none, none, none, none, none, none, none], [.inr (.inl 30)], n, D, (us (us s 3041 run) 3045 (s 3042)), p, c) _
          refine tt_k 1 (S' := (88, [some (.inr (.inl 30)), some (.inl x), some (.inl y), some (.inl run), some (.inl 0), some (.inl 365), none, none, none, none, none, none, none], [.inl 0, .inr (.inl 30)], n, D, (us (us s 3041 run) 3045 (s 3042)), p, c)) rfl ?_
          exact K13 0  (by omega) (trivial)
        · show tt Zi d 161 (83, [some (.inr (.inl 30)), some (.inl x), some (.inl y), some (.inl run), some (.inl 0), some (.inl 365), none, none, none, none, none, none, none], [.inr (.inl 30)], n, D, (us (us s 3041 run) 3045 (s 3042)), p, c) _
          refine tt_k 2 (S' := (88, [some (.inr (.inl 30)), some (.inl x), some (.inl y), some (.inl run), some (.inl 0), some (.inl 365), none, none, none, none, none, none, none], [.inl 1, .inr (.inl 30)], n, D, (us (us s 3041 run) 3045 (s 3042)), p, c)) rfl ?_
          exact K13 1  (by omega) (trivial)
    refine tb_ne (x := 0) (y := 1) rfl rfl (by omega) (fun h186 => ?_) (fun h186 => ?_)
    · show tt Zi d 161 (59, [some (.inr (.inl 30)), some (.inl x), some (.inl y), some (.inl run), some (.inl 0), some (.inl 365), none, none, none, none, none, none, none], [.inr (.inl 30)], n, D, (us s 3041 run), p, c) _
      refine tt_k 2 (S' := (63, [some (.inr (.inl 30)), some (.inl x), some (.inl y), some (.inl run), some (.inl 0), some (.inl 365), none, none, none, none, none, none, none], [.inl (s 3042), .inr (.inl 30)], n, D, (us s 3041 run), p, c)) rfl ?_
      exact K10
    · exfalso; omega
  · show tt Zi d 161 (30, [some (.inr (.inl 30)), some (.inl x), some (.inl y), some (.inl run), none, none, none, none, none, none, none, none, none], [], n, D, (us s 3041 run), p, c) _
    refine tt_k 7 (S' := (45, [some (.inr (.inl 30)), some (.inl x), some (.inl y), some (.inl run), some (.inl 1), some (.inl 366), none, none, none, none, none, none, none], [], n, D, (us s 3041 run), p, c)) rfl ?_
    have z187 : 0 ≤ run ∧ run ≤ 65535 := by omega
    have z188 : 0 ≤ x ∧ x ≤ 63 := by omega
    have z189 : 0 ≤ y ∧ y ≤ 63 := by omega
    clear b5 b3 b1 h6
    have hi : pli s t c (366 : Int).toNat := hp3 (366 : Int).toNat (by decide)
    have hb := pl_bd hp0 (by omega) hi
    refine tt_k 3 (S' := (49, [some (.inr (.inl 30)), some (.inl x), some (.inl y), some (.inl run), some (.inl 1), some (.inl 366), none, none, none, none, none, none, none], [.inl 1, .inl 1, .inr (.inl 30)], n, D, (us s 3041 run), p, c)) rfl ?_
    have K190 : tt Zi d 161 (63, [some (.inr (.inl 30)), some (.inl x), some (.inl y), some (.inl run), some (.inl 1), some (.inl 366), none, none, none, none, none, none, none], [.inl run, .inr (.inl 30)], n, D, (us s 3041 run), p, c) (fun R H => ∃ (s' : Nat → Int) (c' : Nat → Nat → Int), R = .inl none ∧ H = (n, D, s', p, c') ∧ bS s' ∧ bC D c' ∧ fr s s' [3035, 3041, 3042, 3043, 3044, 3045, 3046, 3049, 3050, 3051, 3052, 3053, 3054] ∧ frc c c' [36, 37, 39, 44] ∧ (s' 3050 = 0 → pl s' (t + 1) c') ∧ (s' 3050 = 0 → tb (s' 3037) (s' 3039) (s' 3017) (c' 44) (x + 1) y) ∧ (s 3049 ≤ s' 3049) ∧ (s 3049 ≤ 32768 → s' 3049 ≤ 32768) ∧ (0 ≤ s' 3035 ∧ s' 3035 ≤ 22)) := by
      refine tt_k 3 (S' := (69, [some (.inr (.inl 30)), some (.inl x), some (.inl y), some (.inl run), some (.inl 1), some (.inl 366), none, none, none, none, none, none, none], [.inl 1, .inr (.inl 30)], n, D, (us (us s 3041 run) 3045 run), p, c)) rfl ?_
      have K192 : tt Zi d 161 (88, [some (.inr (.inl 30)), some (.inl x), some (.inl y), some (.inl run), some (.inl 1), some (.inl 366), none, none, none, none, none, none, none], [.inl 0, .inr (.inl 30)], n, D, (us (us s 3041 run) 3045 run), p, c) (fun R H => ∃ (s' : Nat → Int) (c' : Nat → Nat → Int), R = .inl none ∧ H = (n, D, s', p, c') ∧ bS s' ∧ bC D c' ∧ fr s s' [3035, 3041, 3042, 3043, 3044, 3045, 3046, 3049, 3050, 3051, 3052, 3053, 3054] ∧ frc c c' [36, 37, 39, 44] ∧ (s' 3050 = 0 → pl s' (t + 1) c') ∧ (s' 3050 = 0 → tb (s' 3037) (s' 3039) (s' 3017) (c' 44) (x + 1) y) ∧ (s 3049 ≤ s' 3049) ∧ (s 3049 ≤ 32768 → s' 3049 ≤ 32768) ∧ (0 ≤ s' 3035 ∧ s' 3035 ≤ 22)) := by
        refine tt_k 5 (S' := (98, [some (.inr (.inl 30)), some (.inl x), some (.inl y), some (.inl run), some (.inl 1), some (.inl 366), none, none, none, none, none, none, none], [.inl 366, .inr (.inl 36), .inr (.inl 30)], n, D, (us (us (us s 3041 run) 3045 run) 3046 0), p, c)) rfl ?_
        refine tt_ildv (i := 366) (v := (c 36 (366 : Int).toNat)) rfl rfl (by omega) rfl ?_
        show tt Zi d 161 (99, [some (.inr (.inl 30)), some (.inl x), some (.inl y), some (.inl run), some (.inl 1), some (.inl 366), none, none, none, none, none, none, none], [.inl (c 36 (366 : Int).toNat), .inr (.inl 30)], n, D, (us (us (us s 3041 run) 3045 run) 3046 0), p, c) _
        have b194 : -2147483648 ≤ (c 36 (366 : Int).toNat) ∧ (c 36 (366 : Int).toNat) ≤ 2147483647 := hC 36 _
        refine tt_k 2 (S' := (102, [some (.inr (.inl 30)), some (.inl x), some (.inl y), some (.inl run), some (.inl 1), some (.inl 366), none, none, none, none, none, none, none], [.inl 1, .inl 1, .inl (c 36 (366 : Int).toNat), .inr (.inl 30)], n, D, (us (us (us s 3041 run) 3045 run) 3046 0), p, c)) rfl ?_
        have K195 : tt Zi d 161 (118, [some (.inr (.inl 30)), some (.inl x), some (.inl y), some (.inl run), some (.inl 1), some (.inl 366), none, none, none, none, none, none, none], [.inl (((c 39 (366 : Int).toNat) / 2)), .inl (c 36 (366 : Int).toNat), .inr (.inl 30)], n, D, (us (us (us s 3041 run) 3045 run) 3046 0), p, c) (fun R H => ∃ (s' : Nat → Int) (c' : Nat → Nat → Int), R = .inl none ∧ H = (n, D, s', p, c') ∧ bS s' ∧ bC D c' ∧ fr s s' [3035, 3041, 3042, 3043, 3044, 3045, 3046, 3049, 3050, 3051, 3052, 3053, 3054] ∧ frc c c' [36, 37, 39, 44] ∧ (s' 3050 = 0 → pl s' (t + 1) c') ∧ (s' 3050 = 0 → tb (s' 3037) (s' 3039) (s' 3017) (c' 44) (x + 1) y) ∧ (s 3049 ≤ s' 3049) ∧ (s 3049 ≤ 32768 → s' 3049 ≤ 32768) ∧ (0 ≤ s' 3035 ∧ s' 3035 ≤ 22)) := by
          refine tt_k 4 (S' := (125, [some (.inr (.inl 30)), some (.inl x), some (.inl y), some (.inl run), some (.inl 1), some (.inl 366), none, none, none, none, none, none, none], [.inl 366, .inr (.inl 39), .inl (((c 36 (366 : Int).toNat) + ((c 39 (366 : Int).toNat) / 2))), .inr (.inl 30)], n, D, (us (us (us s 3041 run) 3045 run) 3046 0), p, c)) rfl ?_
          refine tt_ildv (i := 366) (v := (c 39 (366 : Int).toNat)) rfl rfl (by omega) rfl ?_
          show tt Zi d 161 (126, [some (.inr (.inl 30)), some (.inl x), some (.inl y), some (.inl run), some (.inl 1), some (.inl 366), none, none, none, none, none, none, none], [.inl (c 39 (366 : Int).toNat), .inl (((c 36 (366 : Int).toNat) + ((c 39 (366 : Int).toNat) / 2))), .inr (.inl 30)], n, D, (us (us (us s 3041 run) 3045 run) 3046 0), p, c) _
          have b197 : -2147483648 ≤ (c 39 (366 : Int).toNat) ∧ (c 39 (366 : Int).toNat) ≤ 2147483647 := hC 39 _
          refine tt_cl (by omega) rfl (k_exponent (Zi := Zi) (D := D) (s := (us (us (us s 3041 run) 3045 run) 3046 0)) (p := p) (c := c) (by omega) (bS_us (bS_us (bS_us hS (show 0 ≤ run ∧ run ≤ 65535 by omega)) (show -65535 ≤ run ∧ run ≤ 131070 by omega)) (show 0 ≤ 0 ∧ 0 ≤ 1 by omega)) hC (((c 36 (366 : Int).toNat) + ((c 39 (366 : Int).toNat) / 2))) (c 39 (366 : Int).toNat) (by omega) (by omega)) ?_
          rintro _ _ ⟨r198, rfl, rfl, b199, k200, k201⟩
          show tt Zi d 161 (129, [some (.inr (.inl 30)), some (.inl x), some (.inl y), some (.inl run), some (.inl 1), some (.inl 366), none, none, none, none, none, none, none], [.inl r198], n, D, (us (us (us s 3041 run) 3045 run) 3046 0), p, c) _
          replace k200 : (((c 36 (366 : Int).toNat) + ((c 39 (366 : Int).toNat) / 2))) ≤ (c 39 (366 : Int).toNat) * 2 ^ r198.toNat := k200
          replace k201 : r198 = 0 ∨ (c 39 (366 : Int).toNat) * 2 ^ (r198 - 1).toNat < (((c 36 (366 : Int).toNat) + ((c 39 (366 : Int).toNat) / 2))) := k201
          have hkq := k_le_q (s := s) (t := t) (c := c) (i := (366 : Int).toNat) (S := ((c 36 (366 : Int).toNat) + ((c 39 (366 : Int).toNat) / 2))) (k := r198) hp0 hi (by omega) (by omega) k201
          have z202 : 0 ≤ r198 ∧ r198 ≤ 16 := by omega
          have z203 : 0 ≤ run ∧ run ≤ 65535 := by omega
          have z204 : 0 ≤ x ∧ x ≤ 63 := by omega
          have z205 : 0 ≤ y ∧ y ≤ 63 := by omega
          clear b199 k200 k201 b197 b194 z189 z188 z187
          refine tt_k 2 (S' := (133, [some (.inr (.inl 30)), some (.inl x), some (.inl y), some (.inl run), some (.inl 1), some (.inl 366), some (.inl r198), none, none, none, none, none, none], [.inl r198], n, D, (us (us (us s 3041 run) 3045 run) 3046 0), p, c)) rfl ?_
          have K207 : ∀ (j206 : Int) , (0 ≤ j206 ∧ j206 ≤ 1) → (True) → tt Zi d 161 (160, [some (.inr (.inl 30)), some (.inl x), some (.inl y), some (.inl run), some (.inl 1), some (.inl 366), some (.inl r198), none, none, none, none, none, none], [.inl j206], n, D, (us (us (us s 3041 run) 3045 run) 3046 0), p, c) (fun R H => ∃ (s' : Nat → Int) (c' : Nat → Nat → Int), R = .inl none ∧ H = (n, D, s', p, c') ∧ bS s' ∧ bC D c' ∧ fr s s' [3035, 3041, 3042, 3043, 3044, 3045, 3046, 3049, 3050, 3051, 3052, 3053, 3054] ∧ frc c c' [36, 37, 39, 44] ∧ (s' 3050 = 0 → pl s' (t + 1) c') ∧ (s' 3050 = 0 → tb (s' 3037) (s' 3039) (s' 3017) (c' 44) (x + 1) y) ∧ (s 3049 ≤ s' 3049) ∧ (s 3049 ≤ 32768 → s' 3049 ≤ 32768) ∧ (0 ≤ s' 3035 ∧ s' 3035 ≤ 22)) := by
            intro j206 b209 hj208
            refine tt_k 6 (S' := (169, [some (.inr (.inl 30)), some (.inl x), some (.inl y), some (.inl run), some (.inl 1), some (.inl 366), some (.inl r198), some (.inl j206), none, none, none, none, none], [.inr (.inl 30), .inl ((s 3026) - 1)], n, D, (us (us (us s 3041 run) 3045 run) 3046 0), p, c)) rfl ?_
            have b210 : 0 ≤ (s 3035) ∧ (s 3035) ≤ 31 := hS 3035
            refine tt_cl (by omega) rfl (k_piecesJ (Zi := Zi) (D := D) (s := (us (us (us s 3041 run) 3045 run) 3046 0)) (p := p) (c := c) (by omega) (bS_us (bS_us (bS_us hS (show 0 ≤ run ∧ run ≤ 65535 by omega)) (show -65535 ≤ run ∧ run ≤ 131070 by omega)) (show 0 ≤ 0 ∧ 0 ≤ 1 by omega)) hC (show 0 ≤ (s 3035) ∧ (s 3035) ≤ 22 by omega)) ?_
            rintro _ _ ⟨r211, rfl, rfl, b212, k213⟩
            show tt Zi d 161 (172, [some (.inr (.inl 30)), some (.inl x), some (.inl y), some (.inl run), some (.inl 1), some (.inl 366), some (.inl r198), some (.inl j206), none, none, none, none, none], [.inl r211, .inl ((s 3026) - 1)], n, D, (us (us (us s 3041 run) 3045 run) 3046 0), p, c) _
            replace k213 : r211 = jj ((s 3035)) := k213
            refine tt_k 8 (S' := (185, [some (.inr (.inl 30)), some (.inl x), some (.inl y), some (.inl run), some (.inl 1), some (.inl 366), some (.inl r198), some (.inl j206), some (.inl ((((s 3026) - 1) - r211))), some (.inl 0), some (.inl 0), none, none], [.inl (s 3036)], n, D, (us (us (us s 3041 run) 3045 run) 3046 0), p, c)) rfl ?_
            have b214 : 0 ≤ (s 3036) ∧ (s 3036) ≤ 1 := hS 3036
            refine tz_eq (x := (s 3036)) rfl rfl (by omega) (fun h215 => ?_) (fun h215 => ?_)
            · show tt Zi d 161 (273, [some (.inr (.inl 30)), some (.inl x), some (.inl y), some (.inl run), some (.inl 1), some (.inl 366), some (.inl r198), some (.inl j206), some (.inl ((((s 3026) - 1) - r211))), some (.inl 0), some (.inl 0), none, none], [], n, D, (us (us (us s 3041 run) 3045 run) 3046 0), p, c) _
              refine tt_k 1 (S' := (274, [some (.inr (.inl 30)), some (.inl x), some (.inl y), some (.inl run), some (.inl 1), some (.inl 366), some (.inl r198), some (.inl j206), some (.inl ((((s 3026) - 1) - r211))), some (.inl 0), some (.inl 0), none, none], [.inr (.inl 30)], n, D, (us (us (us s 3041 run) 3045 run) 3046 0), p, c)) rfl ?_
              refine tt_cl (by omega) rfl (k_ready (Zi := Zi) (D := D) (s := (us (us (us s 3041 run) 3045 run) 3046 0)) (p := p) (c := c) (by omega) (bS_us (bS_us (bS_us hS (show 0 ≤ run ∧ run ≤ 65535 by omega)) (show -65535 ≤ run ∧ run ≤ 131070 by omega)) (show 0 ≤ 0 ∧ 0 ≤ 1 by omega)) hC ) ?_
              rintro _ _ ⟨s216, rfl, rfl, hS216, f217, k218, k219, k220, k221⟩
              have hc222 : mv s216 := mv_fr f217 (by decide) (mv_us (by decide) (mv_us (by decide) (mv_us (by decide) hp0)))
              show tt Zi d 161 (277, [some (.inr (.inl 30)), some (.inl x), some (.inl y), some (.inl run), some (.inl 1), some (.inl 366), some (.inl r198), some (.inl j206), some (.inl ((((s 3026) - 1) - r211))), some (.inl 0), some (.inl 0), none, none], [], n, D, s216, p, c) _
              replace k218 : (s 3049) ≤ (s216 3049) := k218
              replace k219 : (s216 3050) = 0 → 1 ≤ (s216 3054) := k219
              replace k220 : (s 3050) ≠ 0 → (s216 3050) ≠ 0 := k220
              replace k221 : (s 3049) ≤ 32768 → (s216 3049) ≤ 32768 := k221
              have b223 : 0 ≤ (s 3049) ∧ (s 3049) ≤ 32769 := hS 3049
              have b224 : 0 ≤ (s216 3049) ∧ (s216 3049) ≤ 32769 := hS216 3049
              have b225 : 0 ≤ (s216 3050) ∧ (s216 3050) ≤ 8 := hS216 3050
              have b226 : 0 ≤ (s216 3054) ∧ (s216 3054) ≤ 8 := hS216 3054
              have b227 : 0 ≤ (s 3050) ∧ (s 3050) ≤ 8 := hS 3050
              have e228 : s216 3039 = (s 3039) := (f217 3039 (by decide))
              have b229 : 0 ≤ (s216 3039) ∧ (s216 3039) ≤ 8192 := hS216 3039
              have b230 : 0 ≤ (s 3039) ∧ (s 3039) ≤ 8192 := hS 3039
              have e231 : s216 3017 = (s 3017) := (f217 3017 (by decide))
              have b232 : 0 ≤ (s216 3017) ∧ (s216 3017) ≤ 65535 := hS216 3017
              have b233 : 0 ≤ (s 3017) ∧ (s 3017) ≤ 65535 := hS 3017
              have e234 : s216 3024 = (s 3024) := (f217 3024 (by decide))
              have b235 : -2147483648 ≤ (s216 3024) ∧ (s216 3024) ≤ 2147483647 := hS216 3024
              have b236 : -2147483648 ≤ (s 3024) ∧ (s 3024) ≤ 2147483647 := hS 3024
              have e237 : s216 3025 = (s 3025) := (f217 3025 (by decide))
              have b238 : 0 ≤ (s216 3025) ∧ (s216 3025) ≤ 31 := hS216 3025
              have b239 : 0 ≤ (s 3025) ∧ (s 3025) ≤ 31 := hS 3025
              have e240 : s216 3026 = (s 3026) := (f217 3026 (by decide))
              have b241 : 0 ≤ (s216 3026) ∧ (s216 3026) ≤ 96 := hS216 3026
              have b242 : 0 ≤ (s 3026) ∧ (s 3026) ≤ 96 := hS 3026
              have e243 : s216 3037 = (s 3037) := (f217 3037 (by decide))
              have b244 : 0 ≤ (s216 3037) ∧ (s216 3037) ≤ 64 := hS216 3037
              have b245 : 0 ≤ (s 3037) ∧ (s 3037) ≤ 64 := hS 3037
              have e246 : s216 3045 = run := (f217 3045 (by decide))
              have b247 : -65535 ≤ (s216 3045) ∧ (s216 3045) ≤ 131070 := hS216 3045
              have e248 : s216 3035 = (s 3035) := (f217 3035 (by decide))
              have b249 : 0 ≤ (s216 3035) ∧ (s216 3035) ≤ 31 := hS216 3035
              have e250 : s216 3036 = (s 3036) := (f217 3036 (by decide))
              have b251 : 0 ≤ (s216 3036) ∧ (s216 3036) ≤ 1 := hS216 3036
              refine tt_k 6 (S' := (288, [some (.inr (.inl 30)), some (.inl x), some (.inl y), some (.inl run), some (.inl 1), some (.inl 366), some (.inl r198), some (.inl j206), some (.inl ((((s 3026) - 1) - r211))), some (.inl 0), some (.inl 0), some (.inl (s216 3053)), none], [.inl ((((s 3026) - 1) - r211)), .inl r198, .inr (.inl 30)], n, D, s216, p, c)) rfl ?_
              refine tt_cl (by omega) rfl (k_number (Zi := Zi) (D := D) (s := s216) (p := p) (c := c) (by omega) hS216 hC r198 ((((s 3026) - 1) - r211)) (by omega) (by omega) (show 0 ≤ ((((s 3026) - 1) - r211)) - (s216 3025) - 1 ∧ ((((s 3026) - 1) - r211)) - (s216 3025) - 1 ≤ 64 ∧ (s216 3025) ≤ 16 by omega)) ?_
              rintro _ _ ⟨s252, r253, rfl, rfl, hS252, f254, b255, k256, k257, k258⟩
              have hc259 : mv s252 := mv_fr f254 (by decide) hc222
              show tt Zi d 161 (291, [some (.inr (.inl 30)), some (.inl x), some (.inl y), some (.inl run), some (.inl 1), some (.inl 366), some (.inl r198), some (.inl j206), some (.inl ((((s 3026) - 1) - r211))), some (.inl 0), some (.inl 0), some (.inl (s216 3053)), none], [.inl r253], n, D, s252, p, c) _
              replace k256 : (s216 3049) ≤ (s252 3049) := k256
              replace k257 : (s216 3050) ≠ 0 → (s252 3050) ≠ 0 := k257
              replace k258 : (s216 3049) ≤ 32768 → (s252 3049) ≤ 32768 := k258
              have b260 : 0 ≤ (s252 3049) ∧ (s252 3049) ≤ 32769 := hS252 3049
              have b261 : 0 ≤ (s252 3050) ∧ (s252 3050) ≤ 8 := hS252 3050
              have e262 : s252 3039 = (s216 3039) := (f254 3039 (by decide))
              have b263 : 0 ≤ (s252 3039) ∧ (s252 3039) ≤ 8192 := hS252 3039
              have e264 : s252 3017 = (s216 3017) := (f254 3017 (by decide))
              have b265 : 0 ≤ (s252 3017) ∧ (s252 3017) ≤ 65535 := hS252 3017
              have e266 : s252 3024 = (s216 3024) := (f254 3024 (by decide))
              have b267 : -2147483648 ≤ (s252 3024) ∧ (s252 3024) ≤ 2147483647 := hS252 3024
              have e268 : s252 3025 = (s216 3025) := (f254 3025 (by decide))
              have b269 : 0 ≤ (s252 3025) ∧ (s252 3025) ≤ 31 := hS252 3025
              have e270 : s252 3026 = (s216 3026) := (f254 3026 (by decide))
              have b271 : 0 ≤ (s252 3026) ∧ (s252 3026) ≤ 96 := hS252 3026
              have e272 : s252 3037 = (s216 3037) := (f254 3037 (by decide))
              have b273 : 0 ≤ (s252 3037) ∧ (s252 3037) ≤ 64 := hS252 3037
              have e274 : s252 3045 = (s216 3045) := (f254 3045 (by decide))
              have b275 : -65535 ≤ (s252 3045) ∧ (s252 3045) ≤ 131070 := hS252 3045
              have e276 : s252 3035 = (s216 3035) := (f254 3035 (by decide))
              have b277 : 0 ≤ (s252 3035) ∧ (s252 3035) ≤ 31 := hS252 3035
              have e278 : s252 3036 = (s216 3036) := (f254 3036 (by decide))
              have b279 : 0 ≤ (s252 3036) ∧ (s252 3036) ≤ 1 := hS252 3036
              refine tt_k 9 (S' := (305, [some (.inr (.inl 30)), some (.inl x), some (.inl y), some (.inl run), some (.inl 1), some (.inl 366), some (.inl r198), some (.inl j206), some (.inl ((((s 3026) - 1) - r211))), some (.inl 0), some (.inl r253), some (.inl (s216 3053)), some (.inl (r253 + 1))], [.inl 2, .inl ((r253 + 1) + 1)], n, D, s252, p, c)) rfl ?_
              refine tt_dvp (x := ((r253 + 1) + 1)) (y := 2) rfl (by omega) ?_
              show tt Zi d 161 (306, [some (.inr (.inl 30)), some (.inl x), some (.inl y), some (.inl run), some (.inl 1), some (.inl 366), some (.inl r198), some (.inl j206), some (.inl ((((s 3026) - 1) - r211))), some (.inl 0), some (.inl r253), some (.inl (s216 3053)), some (.inl (r253 + 1))], [.inl ((((r253 + 1) + 1) / 2))], n, D, s252, p, c) _
              refine tt_k 3 (S' := (311, [some (.inr (.inl 30)), some (.inl x), some (.inl y), some (.inl run), some (.inl 1), some (.inl 366), some (.inl r198), some (.inl j206), some (.inl ((((s 3026) - 1) - r211))), some (.inl ((((r253 + 1) + 1) / 2))), some (.inl r253), some (.inl (s216 3053)), some (.inl (r253 + 1))], [.inl 2, .inl (r253 + 1)], n, D, s252, p, c)) rfl ?_
              refine tt_rmp (x := (r253 + 1)) (y := 2) rfl (by omega) ?_
              show tt Zi d 161 (312, [some (.inr (.inl 30)), some (.inl x), some (.inl y), some (.inl run), some (.inl 1), some (.inl 366), some (.inl r198), some (.inl j206), some (.inl ((((s 3026) - 1) - r211))), some (.inl ((((r253 + 1) + 1) / 2))), some (.inl r253), some (.inl (s216 3053)), some (.inl (r253 + 1))], [.inl ((r253 + 1) % 2)], n, D, s252, p, c) _
              refine tt_k 1 (S' := (313, [some (.inr (.inl 30)), some (.inl x), some (.inl y), some (.inl run), some (.inl 1), some (.inl 366), some (.inl r198), some (.inl j206), some (.inl ((((s 3026) - 1) - r211))), some (.inl ((((r253 + 1) + 1) / 2))), some (.inl r253), some (.inl (s216 3053)), some (.inl (r253 + 1))], [.inl 1, .inl ((r253 + 1) % 2)], n, D, s252, p, c)) rfl ?_
              have K281 : ∀ (j280 : Int) , (0 ≤ j280 ∧ j280 ≤ 1) → (True) → tt Zi d 161 (321, [some (.inr (.inl 30)), some (.inl x), some (.inl y), some (.inl run), some (.inl 1), some (.inl 366), some (.inl r198), some (.inl j206), some (.inl ((((s 3026) - 1) - r211))), some (.inl ((((r253 + 1) + 1) / 2))), some (.inl r253), some (.inl (s216 3053)), some (.inl (r253 + 1))], [.inl j280], n, D, s252, p, c) (fun R H => ∃ (s' : Nat → Int) (c' : Nat → Nat → Int), R = .inl none ∧ H = (n, D, s', p, c') ∧ bS s' ∧ bC D c' ∧ fr s s' [3035, 3041, 3042, 3043, 3044, 3045, 3046, 3049, 3050, 3051, 3052, 3053, 3054] ∧ frc c c' [36, 37, 39, 44] ∧ (s' 3050 = 0 → pl s' (t + 1) c') ∧ (s' 3050 = 0 → tb (s' 3037) (s' 3039) (s' 3017) (c' 44) (x + 1) y) ∧ (s 3049 ≤ s' 3049) ∧ (s 3049 ≤ 32768 → s' 3049 ≤ 32768) ∧ (0 ≤ s' 3035 ∧ s' 3035 ≤ 22)) := by
                intro j280 b283 hj282
                refine tt_k 1 (S' := (323, [some (.inr (.inl 30)), some (.inl x), some (.inl y), some (.inl run), some (.inl 1), some (.inl 366), some (.inl r198), some (.inl j206), some (.inl ((((s 3026) - 1) - r211))), some (.inl ((((r253 + 1) + 1) / 2))), some (.inl r253), some (.inl (s216 3053)), some (.inl (r253 + 1))], [.inl j206, .inl j280], n, D, s252, p, c)) rfl ?_
                have K285 : ∀ (j284 : Int) , (0 ≤ j284 ∧ j284 ≤ 1) → (True) → tt Zi d 161 (331, [some (.inr (.inl 30)), some (.inl x), some (.inl y), some (.inl run), some (.inl 1), some (.inl 366), some (.inl r198), some (.inl j206), some (.inl ((((s 3026) - 1) - r211))), some (.inl ((((r253 + 1) + 1) / 2))), some (.inl r253), some (.inl (s216 3053)), some (.inl (r253 + 1))], [.inl j284, .inl j280], n, D, s252, p, c) (fun R H => ∃ (s' : Nat → Int) (c' : Nat → Nat → Int), R = .inl none ∧ H = (n, D, s', p, c') ∧ bS s' ∧ bC D c' ∧ fr s s' [3035, 3041, 3042, 3043, 3044, 3045, 3046, 3049, 3050, 3051, 3052, 3053, 3054] ∧ frc c c' [36, 37, 39, 44] ∧ (s' 3050 = 0 → pl s' (t + 1) c') ∧ (s' 3050 = 0 → tb (s' 3037) (s' 3039) (s' 3017) (c' 44) (x + 1) y) ∧ (s 3049 ≤ s' 3049) ∧ (s 3049 ≤ 32768 → s' 3049 ≤ 32768) ∧ (0 ≤ s' 3035 ∧ s' 3035 ≤ 22)) := by
                  intro j284 b287 hj286
                  have K289 : ∀ (j288 : Int) , (-536870912 ≤ j288 ∧ j288 ≤ 536870912) → (j288 = (((r253 + 1) + 1) / 2) ∨ j288 = -(((r253 + 1) + 1) / 2)) → (True) → tt Zi d 161 (342, [some (.inr (.inl 30)), some (.inl x), some (.inl y), some (.inl run), some (.inl 1), some (.inl 366), some (.inl r198), some (.inl j206), some (.inl ((((s 3026) - 1) - r211))), some (.inl ((((r253 + 1) + 1) / 2))), some (.inl r253), some (.inl (s216 3053)), some (.inl (r253 + 1))], [.inl j288], n, D, s252, p, c) (fun R H => ∃ (s' : Nat → Int) (c' : Nat → Nat → Int), R = .inl none ∧ H = (n, D, s', p, c') ∧ bS s' ∧ bC D c' ∧ fr s s' [3035, 3041, 3042, 3043, 3044, 3045, 3046, 3049, 3050, 3051, 3052, 3053, 3054] ∧ frc c c' [36, 37, 39, 44] ∧ (s' 3050 = 0 → pl s' (t + 1) c') ∧ (s' 3050 = 0 → tb (s' 3037) (s' 3039) (s' 3017) (c' 44) (x + 1) y) ∧ (s 3049 ≤ s' 3049) ∧ (s 3049 ≤ 32768 → s' 3049 ≤ 32768) ∧ (0 ≤ s' 3035 ∧ s' 3035 ≤ 22)) := by
                    intro j288 b291 b292 hj290
                    refine tt_k 3 (S' := (348, [some (.inr (.inl 30)), some (.inl x), some (.inl y), some (.inl run), some (.inl 1), some (.inl 366), some (.inl r198), some (.inl j206), some (.inl ((((s 3026) - 1) - r211))), some (.inl j288), some (.inl r253), some (.inl (s216 3053)), some (.inl (r253 + 1))], [.inl (s252 3050)], n, D, s252, p, c)) rfl ?_
                    refine tz_ne (x := (s252 3050)) rfl rfl (by omega) (fun h293 => ?_) (fun h293 => ?_)
                    · show tt Zi d 161 (368, [some (.inr (.inl 30)), some (.inl x), some (.inl y), some (.inl run), some (.inl 1), some (.inl 366), some (.inl r198), some (.inl j206), some (.inl ((((s 3026) - 1) - r211))), some (.inl j288), some (.inl r253), some (.inl (s216 3053)), some (.inl (r253 + 1))], [], n, D, s252, p, c) _
                      have aW : (s252 3037) = s 3037 := ((f254 3037 (by decide)).trans (f217 3037 (by decide)))
                      have aB : (s252 3039) = s 3039 := ((f254 3039 (by decide)).trans (f217 3039 (by decide)))
                      have aM : (s252 3017) = s 3017 := ((f254 3017 (by decide)).trans (f217 3017 (by decide)))
                      have aQ : (s252 3025) = s 3025 := ((f254 3025 (by decide)).trans (f217 3025 (by decide)))
                      have b294 : 0 ≤ (s216 3053) ∧ (s216 3053) ≤ 32768 := hS216 3053
                      refine tt_mono (k_stopR2 (Zi := Zi) (D := D) (s := s252) (p := p) (c := c) (by omega) hS252 hC t x y run 1 366 r198 j206 ((((s 3026) - 1) - r211)) j288 r253 (s216 3053) (r253 + 1) (by omega) (by omega) (by omega) (by omega) (by omega) (by omega) (by omega) hc259 (show x < (s252 3037) by omega) (show 0 ≤ (s252 3045) ∧ (s252 3045) ≤ (s252 3017) by omega) (pl_eq aQ rfl rfl rfl rfl hp3) (show 0 ≤ t ∧ t ≤ 4095 by omega) (by rw [aW, aB, aM]; exact hp4) (show (s252 3050) = 0 → -((s252 3024) / 2) ≤ j288 ∧ j288 ≤ ((s252 3024) - 1) / 2 ∧ r253 ≤ (s252 3024) by omega) (by decide) (show 0 ≤ (s252 3035) ∧ (s252 3035) ≤ 22 by omega)) ?_
                      rintro _ _ ⟨s295, c296, rfl, rfl, hS295, hC296, f297, g298, k299, k300, k301⟩
                      have hFA : s295 3050 = (s252 3050) := f297 3050 (by decide)
                      have hAT : s295 3049 = (s252 3049) := f297 3049 (by decide)
                      have zW : s295 3037 = s252 3037 := f297 3037 (by decide)
                      have zB : s295 3039 = s252 3039 := f297 3039 (by decide)
                      have zM : s295 3017 = s252 3017 := f297 3017 (by decide)
                      exact ⟨s295, c296, rfl, rfl, hS295, hC296, (fr_tr (fr_tr (fr_tr (fr_us (by decide) (fr_us (by decide) (fr_us (by decide) fr_rf))) f217 (by decide)) f254 (by decide)) f297 (by decide)), (frc_tr frc_rf g298 (by decide)), fun hz => k299 (hFA ▸ hz), by show (s295 3050) = 0 → tb ((s295 3037)) ((s295 3039)) ((s295 3017)) ((c296 44)) (x + 1) y; rw [zW, zB, zM]; exact fun hz => k300 (hFA ▸ hz), by show s 3049 ≤ (s295 3049); omega, by show s 3049 ≤ 32768 → (s295 3049) ≤ 32768; omega, k301⟩
                    · show tt Zi d 161 (351, [some (.inr (.inl 30)), some (.inl x), some (.inl y), some (.inl run), some (.inl 1), some (.inl 366), some (.inl r198), some (.inl j206), some (.inl ((((s 3026) - 1) - r211))), some (.inl j288), some (.inl r253), some (.inl (s216 3053)), some (.inl (r253 + 1))], [], n, D, s252, p, c) _
                      refine tt_k 2 (S' := (354, [some (.inr (.inl 30)), some (.inl x), some (.inl y), some (.inl run), some (.inl 1), some (.inl 366), some (.inl r198), some (.inl j206), some (.inl ((((s 3026) - 1) - r211))), some (.inl j288), some (.inl r253), some (.inl (s216 3053)), some (.inl (r253 + 1))], [.inl j288, .inr (.inl 30)], n, D, s252, p, c)) rfl ?_
                      refine tt_cl (by omega) rfl (k_isError (Zi := Zi) (D := D) (s := s252) (p := p) (c := c) (by omega) hS252 hC j288 (by omega) (show 1 ≤ (s252 3024) ∧ (s252 3024) ≤ 65536 by omega)) ?_
                      rintro _ _ ⟨r302, rfl, rfl, b303, k304⟩
                      show tt Zi d 161 (357, [some (.inr (.inl 30)), some (.inl x), some (.inl y), some (.inl run), some (.inl 1), some (.inl 366), some (.inl r198), some (.inl j206), some (.inl ((((s 3026) - 1) - r211))), some (.inl j288), some (.inl r253), some (.inl (s216 3053)), some (.inl (r253 + 1))], [.inl r302], n, D, s252, p, c) _
                      replace k304 : (r302 = 1 ∧ -((s252 3024) / 2) ≤ j288 ∧ j288 ≤ ((s252 3024) - 1) / 2) ∨ (r302 = 0 ∧ ¬ (-((s252 3024) / 2) ≤ j288 ∧ j288 ≤ ((s252 3024) - 1) / 2)) := k304
                      refine tz_ne (x := r302) rfl rfl (by omega) (fun h305 => ?_) (fun h305 => ?_)
                      · show tt Zi d 161 (368, [some (.inr (.inl 30)), some (.inl x), some (.inl y), some (.inl run), some (.inl 1), some (.inl 366), some (.inl r198), some (.inl j206), some (.inl ((((s 3026) - 1) - r211))), some (.inl j288), some (.inl r253), some (.inl (s216 3053)), some (.inl (r253 + 1))], [], n, D, s252, p, c) _
                        have aW : (s252 3037) = s 3037 := ((f254 3037 (by decide)).trans (f217 3037 (by decide)))
                        have aB : (s252 3039) = s 3039 := ((f254 3039 (by decide)).trans (f217 3039 (by decide)))
                        have aM : (s252 3017) = s 3017 := ((f254 3017 (by decide)).trans (f217 3017 (by decide)))
                        have aQ : (s252 3025) = s 3025 := ((f254 3025 (by decide)).trans (f217 3025 (by decide)))
                        have b306 : 0 ≤ (s216 3053) ∧ (s216 3053) ≤ 32768 := hS216 3053
                        refine tt_mono (k_stopR2 (Zi := Zi) (D := D) (s := s252) (p := p) (c := c) (by omega) hS252 hC t x y run 1 366 r198 j206 ((((s 3026) - 1) - r211)) j288 r253 (s216 3053) (r253 + 1) (by omega) (by omega) (by omega) (by omega) (by omega) (by omega) (by omega) hc259 (show x < (s252 3037) by omega) (show 0 ≤ (s252 3045) ∧ (s252 3045) ≤ (s252 3017) by omega) (pl_eq aQ rfl rfl rfl rfl hp3) (show 0 ≤ t ∧ t ≤ 4095 by omega) (by rw [aW, aB, aM]; exact hp4) (show (s252 3050) = 0 → -((s252 3024) / 2) ≤ j288 ∧ j288 ≤ ((s252 3024) - 1) / 2 ∧ r253 ≤ (s252 3024) by omega) (by decide) (show 0 ≤ (s252 3035) ∧ (s252 3035) ≤ 22 by omega)) ?_
                        rintro _ _ ⟨s307, c308, rfl, rfl, hS307, hC308, f309, g310, k311, k312, k313⟩
                        have hFA : s307 3050 = (s252 3050) := f309 3050 (by decide)
                        have hAT : s307 3049 = (s252 3049) := f309 3049 (by decide)
                        have zW : s307 3037 = s252 3037 := f309 3037 (by decide)
                        have zB : s307 3039 = s252 3039 := f309 3039 (by decide)
                        have zM : s307 3017 = s252 3017 := f309 3017 (by decide)
                        exact ⟨s307, c308, rfl, rfl, hS307, hC308, (fr_tr (fr_tr (fr_tr (fr_us (by decide) (fr_us (by decide) (fr_us (by decide) fr_rf))) f217 (by decide)) f254 (by decide)) f309 (by decide)), (frc_tr frc_rf g310 (by decide)), fun hz => k311 (hFA ▸ hz), by show (s307 3050) = 0 → tb ((s307 3037)) ((s307 3039)) ((s307 3017)) ((c308 44)) (x + 1) y; rw [zW, zB, zM]; exact fun hz => k312 (hFA ▸ hz), by show s 3049 ≤ (s307 3049); omega, by show s 3049 ≤ 32768 → (s307 3049) ≤ 32768; omega, k313⟩
                      · show tt Zi d 161 (360, [some (.inr (.inl 30)), some (.inl x), some (.inl y), some (.inl run), some (.inl 1), some (.inl 366), some (.inl r198), some (.inl j206), some (.inl ((((s 3026) - 1) - r211))), some (.inl j288), some (.inl r253), some (.inl (s216 3053)), some (.inl (r253 + 1))], [], n, D, s252, p, c) _
                        refine tt_k 3 (S' := (365, [some (.inr (.inl 30)), some (.inl x), some (.inl y), some (.inl run), some (.inl 1), some (.inl 366), some (.inl r198), some (.inl j206), some (.inl ((((s 3026) - 1) - r211))), some (.inl j288), some (.inl r253), some (.inl (s216 3053)), some (.inl (r253 + 1))], [.inl (s216 3053), .inl 7, .inr (.inl 30)], n, D, s252, p, c)) rfl ?_
                        have b314 : 0 ≤ (s216 3053) ∧ (s216 3053) ≤ 32768 := hS216 3053
                        refine tt_cl (by omega) rfl (k_fail (Zi := Zi) (D := D) (s := s252) (p := p) (c := c) (by omega) hS252 hC 7 (s216 3053) (by omega) (by omega)) ?_
                        rintro _ _ ⟨s315, rfl, rfl, hS315, f316, k317, k318⟩
                        have hc319 : mv s315 := mv_fr f316 (by decide) hc259
                        show tt Zi d 161 (368, [some (.inr (.inl 30)), some (.inl x), some (.inl y), some (.inl run), some (.inl 1), some (.inl 366), some (.inl r198), some (.inl j206), some (.inl ((((s 3026) - 1) - r211))), some (.inl j288), some (.inl r253), some (.inl (s216 3053)), some (.inl (r253 + 1))], [], n, D, s315, p, c) _
                        replace k317 : ((s252 3050) = 0 → (s315 3050) = 7 ∧ (s315 3051) = (s216 3053)) := k317
                        replace k318 : ((s252 3050) ≠ 0 → (s315 3050) = (s252 3050) ∧ (s315 3051) = (s252 3051)) := k318
                        have b320 : 0 ≤ (s315 3050) ∧ (s315 3050) ≤ 8 := hS315 3050
                        have b321 : -1 ≤ (s315 3051) ∧ (s315 3051) ≤ 32769 := hS315 3051
                        have b322 : -1 ≤ (s252 3051) ∧ (s252 3051) ≤ 32769 := hS252 3051
                        have e323 : s315 3039 = (s252 3039) := (f316 3039 (by decide))
                        have b324 : 0 ≤ (s315 3039) ∧ (s315 3039) ≤ 8192 := hS315 3039
                        have e325 : s315 3017 = (s252 3017) := (f316 3017 (by decide))
                        have b326 : 0 ≤ (s315 3017) ∧ (s315 3017) ≤ 65535 := hS315 3017
                        have e327 : s315 3024 = (s252 3024) := (f316 3024 (by decide))
                        have b328 : -2147483648 ≤ (s315 3024) ∧ (s315 3024) ≤ 2147483647 := hS315 3024
                        have e329 : s315 3025 = (s252 3025) := (f316 3025 (by decide))
                        have b330 : 0 ≤ (s315 3025) ∧ (s315 3025) ≤ 31 := hS315 3025
                        have e331 : s315 3026 = (s252 3026) := (f316 3026 (by decide))
                        have b332 : 0 ≤ (s315 3026) ∧ (s315 3026) ≤ 96 := hS315 3026
                        have e333 : s315 3037 = (s252 3037) := (f316 3037 (by decide))
                        have b334 : 0 ≤ (s315 3037) ∧ (s315 3037) ≤ 64 := hS315 3037
                        have e335 : s315 3045 = (s252 3045) := (f316 3045 (by decide))
                        have b336 : -65535 ≤ (s315 3045) ∧ (s315 3045) ≤ 131070 := hS315 3045
                        have e337 : s315 3035 = (s252 3035) := (f316 3035 (by decide))
                        have b338 : 0 ≤ (s315 3035) ∧ (s315 3035) ≤ 31 := hS315 3035
                        have e339 : s315 3049 = (s252 3049) := (f316 3049 (by decide))
                        have b340 : 0 ≤ (s315 3049) ∧ (s315 3049) ≤ 32769 := hS315 3049
                        have e341 : s315 3036 = (s252 3036) := (f316 3036 (by decide))
                        have b342 : 0 ≤ (s315 3036) ∧ (s315 3036) ≤ 1 := hS315 3036
                        have aW : (s315 3037) = s 3037 := ((f316 3037 (by decide)).trans ((f254 3037 (by decide)).trans (f217 3037 (by decide))))
                        have aB : (s315 3039) = s 3039 := ((f316 3039 (by decide)).trans ((f254 3039 (by decide)).trans (f217 3039 (by decide))))
                        have aM : (s315 3017) = s 3017 := ((f316 3017 (by decide)).trans ((f254 3017 (by decide)).trans (f217 3017 (by decide))))
                        have aQ : (s315 3025) = s 3025 := ((f316 3025 (by decide)).trans ((f254 3025 (by decide)).trans (f217 3025 (by decide))))
                        refine tt_mono (k_stopR2 (Zi := Zi) (D := D) (s := s315) (p := p) (c := c) (by omega) hS315 hC t x y run 1 366 r198 j206 ((((s 3026) - 1) - r211)) j288 r253 (s216 3053) (r253 + 1) (by omega) (by omega) (by omega) (by omega) (by omega) (by omega) (by omega) hc319 (show x < (s315 3037) by omega) (show 0 ≤ (s315 3045) ∧ (s315 3045) ≤ (s315 3017) by omega) (pl_eq aQ rfl rfl rfl rfl hp3) (show 0 ≤ t ∧ t ≤ 4095 by omega) (by rw [aW, aB, aM]; exact hp4) (show (s315 3050) = 0 → -((s315 3024) / 2) ≤ j288 ∧ j288 ≤ ((s315 3024) - 1) / 2 ∧ r253 ≤ (s315 3024) by omega) (by decide) (show 0 ≤ (s315 3035) ∧ (s315 3035) ≤ 22 by omega)) ?_
                        rintro _ _ ⟨s343, c344, rfl, rfl, hS343, hC344, f345, g346, k347, k348, k349⟩
                        have hFA : s343 3050 = (s315 3050) := f345 3050 (by decide)
                        have hAT : s343 3049 = (s315 3049) := f345 3049 (by decide)
                        have zW : s343 3037 = s315 3037 := f345 3037 (by decide)
                        have zB : s343 3039 = s315 3039 := f345 3039 (by decide)
                        have zM : s343 3017 = s315 3017 := f345 3017 (by decide)
                        exact ⟨s343, c344, rfl, rfl, hS343, hC344, (fr_tr (fr_tr (fr_tr (fr_tr (fr_us (by decide) (fr_us (by decide) (fr_us (by decide) fr_rf))) f217 (by decide)) f254 (by decide)) f316 (by decide)) f345 (by decide)), (frc_tr frc_rf g346 (by decide)), fun hz => k347 (hFA ▸ hz), by show (s343 3050) = 0 → tb ((s343 3037)) ((s343 3039)) ((s343 3017)) ((c344 44)) (x + 1) y; rw [zW, zB, zM]; exact fun hz => k348 (hFA ▸ hz), by show s 3049 ≤ (s343 3049); omega, by show s 3049 ≤ 32768 → (s343 3049) ≤ 32768; omega, k349⟩
                  refine tb_ne (x := j280) (y := j284) rfl rfl (by omega) (fun h350 => ?_) (fun h350 => ?_)
                  · show tt Zi d 161 (340, [some (.inr (.inl 30)), some (.inl x), some (.inl y), some (.inl run), some (.inl 1), some (.inl 366), some (.inl r198), some (.inl j206), some (.inl ((((s 3026) - 1) - r211))), some (.inl ((((r253 + 1) + 1) / 2))), some (.inl r253), some (.inl (s216 3053)), some (.inl (r253 + 1))], [], n, D, s252, p, c) _
                    refine tt_k 1 (S' := (342, [some (.inr (.inl 30)), some (.inl x), some (.inl y), some (.inl run), some (.inl 1), some (.inl 366), some (.inl r198), some (.inl j206), some (.inl ((((s 3026) - 1) - r211))), some (.inl ((((r253 + 1) + 1) / 2))), some (.inl r253), some (.inl (s216 3053)), some (.inl (r253 + 1))], [.inl ((((r253 + 1) + 1) / 2))], n, D, s252, p, c)) rfl ?_
                    exact K289 ((((r253 + 1) + 1) / 2))  (by omega) (by omega) (trivial)
                  · show tt Zi d 161 (334, [some (.inr (.inl 30)), some (.inl x), some (.inl y), some (.inl run), some (.inl 1), some (.inl 366), some (.inl r198), some (.inl j206), some (.inl ((((s 3026) - 1) - r211))), some (.inl ((((r253 + 1) + 1) / 2))), some (.inl r253), some (.inl (s216 3053)), some (.inl (r253 + 1))], [], n, D, s252, p, c) _
                    refine tt_k 3 (S' := (342, [some (.inr (.inl 30)), some (.inl x), some (.inl y), some (.inl run), some (.inl 1), some (.inl 366), some (.inl r198), some (.inl j206), some (.inl ((((s 3026) - 1) - r211))), some (.inl ((((r253 + 1) + 1) / 2))), some (.inl r253), some (.inl (s216 3053)), some (.inl (r253 + 1))], [.inl ((-(((r253 + 1) + 1) / 2)))], n, D, s252, p, c)) rfl ?_
                    exact K289 ((-(((r253 + 1) + 1) / 2)))  (by omega) (by omega) (trivial)
                refine tz_ne (x := j206) rfl rfl (by omega) (fun h351 => ?_) (fun h351 => ?_)
                · show tt Zi d 161 (330, [some (.inr (.inl 30)), some (.inl x), some (.inl y), some (.inl run), some (.inl 1), some (.inl 366), some (.inl r198), some (.inl j206), some (.inl ((((s 3026) - 1) - r211))), some (.inl ((((r253 + 1) + 1) / 2))), some (.inl r253), some (.inl (s216 3053)), some (.inl (r253 + 1))], [.inl j280], n, D, s252, p, c) _
                  refine tt_k 1 (S' := (331, [some (.inr (.inl 30)), some (.inl x), some (.inl y), some (.inl run), some (.inl 1), some (.inl 366), some (.inl r198), some (.inl j206), some (.inl ((((s 3026) - 1) - r211))), some (.inl ((((r253 + 1) + 1) / 2))), some (.inl r253), some (.inl (s216 3053)), some (.inl (r253 + 1))], [.inl 0, .inl j280], n, D, s252, p, c)) rfl ?_
                  exact K285 0  (by omega) (trivial)
                · show tt Zi d 161 (326, [some (.inr (.inl 30)), some (.inl x), some (.inl y), some (.inl run), some (.inl 1), some (.inl 366), some (.inl r198), some (.inl j206), some (.inl ((((s 3026) - 1) - r211))), some (.inl ((((r253 + 1) + 1) / 2))), some (.inl r253), some (.inl (s216 3053)), some (.inl (r253 + 1))], [.inl j280], n, D, s252, p, c) _
                  refine tt_k 2 (S' := (331, [some (.inr (.inl 30)), some (.inl x), some (.inl y), some (.inl run), some (.inl 1), some (.inl 366), some (.inl r198), some (.inl j206), some (.inl ((((s 3026) - 1) - r211))), some (.inl ((((r253 + 1) + 1) / 2))), some (.inl r253), some (.inl (s216 3053)), some (.inl (r253 + 1))], [.inl 1, .inl j280], n, D, s252, p, c)) rfl ?_
                  exact K285 1  (by omega) (trivial)
              refine tb_ne (x := ((r253 + 1) % 2)) (y := 1) rfl rfl (by omega) (fun h352 => ?_) (fun h352 => ?_)
              · show tt Zi d 161 (320, [some (.inr (.inl 30)), some (.inl x), some (.inl y), some (.inl run), some (.inl 1), some (.inl 366), some (.inl r198), some (.inl j206), some (.inl ((((s 3026) - 1) - r211))), some (.inl ((((r253 + 1) + 1) / 2))), some (.inl r253), some (.inl (s216 3053)), some (.inl (r253 + 1))], [], n, D, s252, p, c) _
                refine tt_k 1 (S' := (321, [some (.inr (.inl 30)), some (.inl x), some (.inl y), some (.inl run), some (.inl 1), some (.inl 366), some (.inl r198), some (.inl j206), some (.inl ((((s 3026) - 1) - r211))), some (.inl ((((r253 + 1) + 1) / 2))), some (.inl r253), some (.inl (s216 3053)), some (.inl (r253 + 1))], [.inl 0], n, D, s252, p, c)) rfl ?_
                exact K281 0  (by omega) (trivial)
              · show tt Zi d 161 (316, [some (.inr (.inl 30)), some (.inl x), some (.inl y), some (.inl run), some (.inl 1), some (.inl 366), some (.inl r198), some (.inl j206), some (.inl ((((s 3026) - 1) - r211))), some (.inl ((((r253 + 1) + 1) / 2))), some (.inl r253), some (.inl (s216 3053)), some (.inl (r253 + 1))], [], n, D, s252, p, c) _
                refine tt_k 2 (S' := (321, [some (.inr (.inl 30)), some (.inl x), some (.inl y), some (.inl run), some (.inl 1), some (.inl 366), some (.inl r198), some (.inl j206), some (.inl ((((s 3026) - 1) - r211))), some (.inl ((((r253 + 1) + 1) / 2))), some (.inl r253), some (.inl (s216 3053)), some (.inl (r253 + 1))], [.inl 1], n, D, s252, p, c)) rfl ?_
                exact K281 1  (by omega) (trivial)
            · exfalso; omega
          refine tz_ne (x := r198) rfl rfl (by omega) (fun h353 => ?_) (fun h353 => ?_)
          · show tt Zi d 161 (159, [some (.inr (.inl 30)), some (.inl x), some (.inl y), some (.inl run), some (.inl 1), some (.inl 366), some (.inl r198), none, none, none, none, none, none], [], n, D, (us (us (us s 3041 run) 3045 run) 3046 0), p, c) _
            refine tt_k 1 (S' := (160, [some (.inr (.inl 30)), some (.inl x), some (.inl y), some (.inl run), some (.inl 1), some (.inl 366), some (.inl r198), none, none, none, none, none, none], [.inl 0], n, D, (us (us (us s 3041 run) 3045 run) 3046 0), p, c)) rfl ?_
            exact K207 0  (by omega) (trivial)
          · show tt Zi d 161 (136, [some (.inr (.inl 30)), some (.inl x), some (.inl y), some (.inl run), some (.inl 1), some (.inl 366), some (.inl r198), none, none, none, none, none, none], [], n, D, (us (us (us s 3041 run) 3045 run) 3046 0), p, c) _
            refine tt_k 4 (S' := (143, [some (.inr (.inl 30)), some (.inl x), some (.inl y), some (.inl run), some (.inl 1), some (.inl 366), some (.inl r198), none, none, none, none, none, none], [.inl 366, .inr (.inl 37), .inl 2], n, D, (us (us (us s 3041 run) 3045 run) 3046 0), p, c)) rfl ?_
            refine tt_ildv (i := 366) (v := (c 37 (366 : Int).toNat)) rfl rfl (by omega) rfl ?_
            show tt Zi d 161 (144, [some (.inr (.inl 30)), some (.inl x), some (.inl y), some (.inl run), some (.inl 1), some (.inl 366), some (.inl r198), none, none, none, none, none, none], [.inl (c 37 (366 : Int).toNat), .inl 2], n, D, (us (us (us s 3041 run) 3045 run) 3046 0), p, c) _
            have b354 : -2147483648 ≤ (c 37 (366 : Int).toNat) ∧ (c 37 (366 : Int).toNat) ≤ 2147483647 := hC 37 _
            refine tt_k 4 (S' := (151, [some (.inr (.inl 30)), some (.inl x), some (.inl y), some (.inl run), some (.inl 1), some (.inl 366), some (.inl r198), none, none, none, none, none, none], [.inl 366, .inr (.inl 39), .inl ((2 * (c 37 (366 : Int).toNat)))], n, D, (us (us (us s 3041 run) 3045 run) 3046 0), p, c)) rfl ?_
            refine tt_ildv (i := 366) (v := (c 39 (366 : Int).toNat)) rfl rfl (by omega) rfl ?_
            show tt Zi d 161 (152, [some (.inr (.inl 30)), some (.inl x), some (.inl y), some (.inl run), some (.inl 1), some (.inl 366), some (.inl r198), none, none, none, none, none, none], [.inl (c 39 (366 : Int).toNat), .inl ((2 * (c 37 (366 : Int).toNat)))], n, D, (us (us (us s 3041 run) 3045 run) 3046 0), p, c) _
            have b355 : -2147483648 ≤ (c 39 (366 : Int).toNat) ∧ (c 39 (366 : Int).toNat) ≤ 2147483647 := hC 39 _
            refine tb_ge (x := (2 * (c 37 (366 : Int).toNat))) (y := (c 39 (366 : Int).toNat)) rfl rfl (by omega) (fun h356 => ?_) (fun h356 => ?_)
            · show tt Zi d 161 (159, [some (.inr (.inl 30)), some (.inl x), some (.inl y), some (.inl run), some (.inl 1), some (.inl 366), some (.inl r198), none, none, none, none, none, none], [], n, D, (us (us (us s 3041 run) 3045 run) 3046 0), p, c) _
              refine tt_k 1 (S' := (160, [some (.inr (.inl 30)), some (.inl x), some (.inl y), some (.inl run), some (.inl 1), some (.inl 366), some (.inl r198), none, none, none, none, none, none], [.inl 0], n, D, (us (us (us s 3041 run) 3045 run) 3046 0), p, c)) rfl ?_
              exact K207 0  (by omega) (trivial)
            · show tt Zi d 161 (155, [some (.inr (.inl 30)), some (.inl x), some (.inl y), some (.inl run), some (.inl 1), some (.inl 366), some (.inl r198), none, none, none, none, none, none], [], n, D, (us (us (us s 3041 run) 3045 run) 3046 0), p, c) _
              refine tt_k 2 (S' := (160, [some (.inr (.inl 30)), some (.inl x), some (.inl y), some (.inl run), some (.inl 1), some (.inl 366), some (.inl r198), none, none, none, none, none, none], [.inl 1], n, D, (us (us (us s 3041 run) 3045 run) 3046 0), p, c)) rfl ?_
              exact K207 1  (by omega) (trivial)
        refine tb_ne (x := 1) (y := 1) rfl rfl (by omega) (fun h357 => ?_) (fun h357 => ?_)
        · exfalso; omega
        · show tt Zi d 161 (105, [some (.inr (.inl 30)), some (.inl x), some (.inl y), some (.inl run), some (.inl 1), some (.inl 366), none, none, none, none, none, none, none], [.inl (c 36 (366 : Int).toNat), .inr (.inl 30)], n, D, (us (us (us s 3041 run) 3045 run) 3046 0), p, c) _
          refine tt_k 3 (S' := (111, [some (.inr (.inl 30)), some (.inl x), some (.inl y), some (.inl run), some (.inl 1), some (.inl 366), none, none, none, none, none, none, none], [.inl 366, .inr (.inl 39), .inl (c 36 (366 : Int).toNat), .inr (.inl 30)], n, D, (us (us (us s 3041 run) 3045 run) 3046 0), p, c)) rfl ?_
          refine tt_ildv (i := 366) (v := (c 39 (366 : Int).toNat)) rfl rfl (by omega) rfl ?_
          show tt Zi d 161 (112, [some (.inr (.inl 30)), some (.inl x), some (.inl y), some (.inl run), some (.inl 1), some (.inl 366), none, none, none, none, none, none, none], [.inl (c 39 (366 : Int).toNat), .inl (c 36 (366 : Int).toNat), .inr (.inl 30)], n, D, (us (us (us s 3041 run) 3045 run) 3046 0), p, c) _
          have b358 : -2147483648 ≤ (c 39 (366 : Int).toNat) ∧ (c 39 (366 : Int).toNat) ≤ 2147483647 := hC 39 _
          refine tt_k 1 (S' := (113, [some (.inr (.inl 30)), some (.inl x), some (.inl y), some (.inl run), some (.inl 1), some (.inl 366), none, none, none, none, none, none, none], [.inl 2, .inl (c 39 (366 : Int).toNat), .inl (c 36 (366 : Int).toNat), .inr (.inl 30)], n, D, (us (us (us s 3041 run) 3045 run) 3046 0), p, c)) rfl ?_
          refine tt_dvp (x := (c 39 (366 : Int).toNat)) (y := 2) rfl (by omega) ?_
          show tt Zi d 161 (114, [some (.inr (.inl 30)), some (.inl x), some (.inl y), some (.inl run), some (.inl 1), some (.inl 366), none, none, none, none, none, none, none], [.inl (((c 39 (366 : Int).toNat) / 2)), .inl (c 36 (366 : Int).toNat), .inr (.inl 30)], n, D, (us (us (us s 3041 run) 3045 run) 3046 0), p, c) _
          refine tt_k 1 (S' := (118, [some (.inr (.inl 30)), some (.inl x), some (.inl y), some (.inl run), some (.inl 1), some (.inl 366), none, none, none, none, none, none, none], [.inl (((c 39 (366 : Int).toNat) / 2)), .inl (c 36 (366 : Int).toNat), .inr (.inl 30)], n, D, (us (us (us s 3041 run) 3045 run) 3046 0), p, c)) rfl ?_
          exact K195
      refine tz_ne (x := 1) rfl rfl (by omega) (fun h359 => ?_) (fun h359 => ?_)
      · show tt Zi d 161 (87, [some (.inr (.inl 30)), some (.inl x), some (.inl y), some (.inl run), some (.inl 1), some (.inl 366), none, none, none, none, none, none, none], [.inr (.inl 30)], n, D, (us (us s 3041 run) 3045 run), p, c) _
        refine tt_k 1 (S' := (88, [some (.inr (.inl 30)), some (.inl x), some (.inl y), some (.inl run), some (.inl 1), some (.inl 366), none, none, none, none, none, none, none], [.inl 0, .inr (.inl 30)], n, D, (us (us s 3041 run) 3045 run), p, c)) rfl ?_
        exact K192
      · exfalso; omega
    refine tb_ne (x := 1) (y := 1) rfl rfl (by omega) (fun h360 => ?_) (fun h360 => ?_)
    · exfalso; omega
    · show tt Zi d 161 (52, [some (.inr (.inl 30)), some (.inl x), some (.inl y), some (.inl run), some (.inl 1), some (.inl 366), none, none, none, none, none, none, none], [.inr (.inl 30)], n, D, (us s 3041 run), p, c) _
      refine tt_k 3 (S' := (63, [some (.inr (.inl 30)), some (.inl x), some (.inl y), some (.inl run), some (.inl 1), some (.inl 366), none, none, none, none, none, none, none], [.inl run, .inr (.inl 30)], n, D, (us s 3041 run), p, c)) rfl ?_
      exact K190
set_option maxRecDepth 100000 in
set_option maxHeartbeats 4000000 in
theorem k_stopR {Zi : Nat → Option (Nat × (Nat → Int))} {d n : Nat} {D : Nat → Nat × Nat} {s : Nat → Int} {p : Nat → Nat} {c : Nat → Nat → Int} (hd : 5 ≤ d) (hS : bS s) (hC : bC D c) (t : Int) (x : Int) (y : Int) (run : Int) (b_x : 0 ≤ x ∧ x ≤ 63) (b_y : 0 ≤ y ∧ y ≤ 63) (b_run : 0 ≤ run ∧ run ≤ 65535) (hp0 : mv s) (hp1 : s 3036 = 0 ∧ s 3050 = 0 ∧ x < s 3037) (hp2 : run ≤ s 3017) (hp3 : pl s t c) (hp4 : tb (s 3037) (s 3039) (s 3017) (c 44) x y) (hp5 : 0 ≤ t ∧ t ≤ 4095) (hp6 : 0 ≤ s 3035 ∧ s 3035 ≤ 22) : tt Zi d 161 (0, [some (.inr (.inl 30)), some (.inl x), some (.inl y), some (.inl run), none, none, none, none, none, none, none, none, none], [], n, D, s, p, c) (fun R H => ∃ (s' : Nat → Int) (c' : Nat → Nat → Int), R = .inl none ∧ H = (n, D, s', p, c') ∧ bS s' ∧ bC D c' ∧ fr s s' [3035, 3041, 3042, 3043, 3044, 3045, 3046, 3049, 3050, 3051, 3052, 3053, 3054] ∧ frc c c' [36, 37, 39, 44] ∧ (s' 3050 = 0 → pl s' (t + 1) c') ∧ (s' 3050 = 0 → tb (s' 3037) (s' 3039) (s' 3017) (c' 44) (x + 1) y) ∧ (s 3049 ≤ s' 3049) ∧ (s 3049 ≤ 32768 → s' 3049 ≤ 32768) ∧ (0 ≤ s' 3035 ∧ s' 3035 ≤ 22)) := by
  refine tt_k 3 (S' := (3, [some (.inr (.inl 30)), some (.inl x), some (.inl y), some (.inl run), none, none, none, none, none, none, none, none, none], [.inl y, .inl x, .inr (.inl 30)], n, D, s, p, c)) rfl ?_
  have b1 : 0 ≤ (s 3037) ∧ (s 3037) ≤ 64 := hS 3037
  have b2 : 0 ≤ (s 3039) ∧ (s 3039) ≤ 8192 := hS 3039
  have b3 : 0 ≤ (s 3017) ∧ (s 3017) ≤ 65535 := hS 3017
  refine tt_cl (by omega) rfl (k_neighbours (Zi := Zi) (D := D) (s := s) (p := p) (c := c) (by omega) hS hC x y (by omega) (by omega) (show x < (s 3037) by omega) hp4) ?_
  rintro _ _ ⟨s4, rfl, rfl, hS4, f5, k6⟩
  have hc7 : mv s4 := mv_fr f5 (by decide) hp0
  show tt Zi d 161 (6, [some (.inr (.inl 30)), some (.inl x), some (.inl y), some (.inl run), none, none, none, none, none, none, none, none, none], [], n, D, s4, p, c) _
  replace k6 : (0 ≤ (s4 3041) ∧ (s4 3041) ≤ (s 3017)) ∧ (0 ≤ (s4 3042) ∧ (s4 3042) ≤ (s 3017)) ∧ (0 ≤ (s4 3043) ∧ (s4 3043) ≤ (s 3017)) ∧ (0 ≤ (s4 3044) ∧ (s4 3044) ≤ (s 3017)) := k6
  have b8 : 0 ≤ (s4 3041) ∧ (s4 3041) ≤ 65535 := hS4 3041
  have b9 : 0 ≤ (s4 3042) ∧ (s4 3042) ≤ 65535 := hS4 3042
  have b10 : 0 ≤ (s4 3043) ∧ (s4 3043) ≤ 65535 := hS4 3043
  have b11 : 0 ≤ (s4 3044) ∧ (s4 3044) ≤ 65535 := hS4 3044
  have aP : s4 3035 = s 3035 := f5 3035 (by decide)
  have aQ : s4 3025 = s 3025 := f5 3025 (by decide)
  have aW : s4 3037 = s 3037 := f5 3037 (by decide)
  have aB : s4 3039 = s 3039 := f5 3039 (by decide)
  have aM : s4 3017 = s 3017 := f5 3017 (by decide)
  have aT : s4 3036 = s 3036 := f5 3036 (by decide)
  have aF : s4 3050 = s 3050 := f5 3050 (by decide)
  have aA : s4 3049 = s 3049 := f5 3049 (by decide)
  have b12 : 0 ≤ (s4 3036) ∧ (s4 3036) ≤ 1 := hS4 3036
  have b13 : 0 ≤ (s4 3050) ∧ (s4 3050) ≤ 8 := hS4 3050
  have b14 : 0 ≤ (s4 3037) ∧ (s4 3037) ≤ 64 := hS4 3037
  have b15 : 0 ≤ (s4 3017) ∧ (s4 3017) ≤ 65535 := hS4 3017
  have b16 : 0 ≤ (s4 3039) ∧ (s4 3039) ≤ 8192 := hS4 3039
  have b17 : 0 ≤ (s4 3035) ∧ (s4 3035) ≤ 31 := hS4 3035
  refine tt_mono (k_stopRC (Zi := Zi) (D := D) (s := s4) (p := p) (c := c) (by omega) hS4 hC t x y run (by omega) (by omega) (by omega) hc7 (by rw [aT, aF, aW]; exact hp1) (by rw [aM]; exact hp2) (pl_eq aQ rfl rfl rfl rfl hp3) (by rw [aW, aB, aM]; exact hp4) hp5 (by rw [aP]; exact hp6) (by rw [aM]; omega)) ?_
  rintro _ _ ⟨s18, c19, rfl, rfl, hS18, hC19, f20, g21, k22, k23, k24, k25, k26⟩
  exact ⟨s18, c19, rfl, rfl, hS18, hC19, (fr_tr (fr_tr fr_rf f5 (by decide)) f20 (by decide)), (frc_tr frc_rf g21 (by decide)), k22, k23, by show s 3049 ≤ (s18 3049); omega, by show s 3049 ≤ 32768 → (s18 3049) ≤ 32768; omega, k26⟩
set_option maxRecDepth 100000 in
set_option maxHeartbeats 4000000 in
theorem k_readRun_L11 {Zi : Nat → Option (Nat × (Nat → Int))} {d n : Nat} {D : Nat → Nat × Nat} {s : Nat → Int} {p : Nat → Nat} {c : Nat → Nat → Int}  {Q : mi_Rs → mi_H → Prop} (hd : 6 ≤ d) (hS : bS s) (hC : bC D c) (t : Int) (x : Int) (y : Int) (run : Int) (b_x : 0 ≤ x ∧ x ≤ 63) (b_y : 0 ≤ y ∧ y ≤ 63) (b_run : 0 ≤ run ∧ run ≤ 65535) (hc_mv : mv s) (hq0 : s 3036 = 0 ∧ x < s 3037) (hq1 : run ≤ s 3017) (hq2 : 0 ≤ t ∧ t + s 3037 - x ≤ 4096)
  (hK : ∀ (n_ : Int) (mo : Int) (o_6 : Option mi_V) (o_7 : Option mi_V) (o_8 : Option mi_V) (s0 : Nat → Int) (c0 : Nat → Nat → Int) (b_n_ : 0 ≤ n_ ∧ n_ ≤ 64) (b_mo : 0 ≤ mo ∧ mo ≤ 1) (hS0 : bS s0) (hF0 : fr s s0 [3035, 3041, 3042, 3043, 3044, 3045, 3046, 3049, 3050, 3051, 3052, 3053, 3054]) (hC0 : bC D c0) (hG0 : frc c c0 [36, 37, 39, 44]) (i0 : s0 3050 = 0 → pl s0 (t + n_) c0) (i1 : s0 3050 = 0 → tb (s0 3037) (s0 3039) (s0 3017) (c0 44) (x + n_) y) (i2 : x + n_ ≤ s 3037) (i3 : mo = 1 → x + n_ < s 3037) (i4 : mo = 1 ∨ 1 ≤ n_ ∨ s0 3050 ≠ 0) (i5 : s 3049 ≤ s0 3049) (i6 : s 3049 ≤ 32768 → s0 3049 ≤ 32768) (i7 : 0 ≤ s0 3035 ∧ s0 3035 ≤ 22), mo = 0 ∨ s0 3050 ≠ 0 → tt Zi d 172 (232, [some (.inr (.inl 30)), some (.inl x), some (.inl y), some (.inl run), some (.inl n_), some (.inl mo), o_6, o_7, o_8], [], n, D, s0, p, c0) Q) :
  ∀ (m : Nat) (n_ : Int) (mo : Int) (o_6 : Option mi_V) (o_7 : Option mi_V) (o_8 : Option mi_V) (s0 : Nat → Int) (c0 : Nat → Nat → Int) (b_n_ : 0 ≤ n_ ∧ n_ ≤ 64) (b_mo : 0 ≤ mo ∧ mo ≤ 1) (hS0 : bS s0) (hF0 : fr s s0 [3035, 3041, 3042, 3043, 3044, 3045, 3046, 3049, 3050, 3051, 3052, 3053, 3054]) (hC0 : bC D c0) (hG0 : frc c c0 [36, 37, 39, 44]) (i0 : s0 3050 = 0 → pl s0 (t + n_) c0) (i1 : s0 3050 = 0 → tb (s0 3037) (s0 3039) (s0 3017) (c0 44) (x + n_) y) (i2 : x + n_ ≤ s 3037) (i3 : mo = 1 → x + n_ < s 3037) (i4 : mo = 1 ∨ 1 ≤ n_ ∨ s0 3050 ≠ 0) (i5 : s 3049 ≤ s0 3049) (i6 : s 3049 ≤ 32768 → s0 3049 ≤ 32768) (i7 : 0 ≤ s0 3035 ∧ s0 3035 ≤ 22), (if mo = 1 ∧ s0 3050 = 0 then s 3037 - x - n_ + 1 else 0).toNat < m → tt Zi d 172 (11, [some (.inr (.inl 30)), some (.inl x), some (.inl y), some (.inl run), some (.inl n_), some (.inl mo), o_6, o_7, o_8], [], n, D, s0, p, c0) Q := by
  intro m
  induction m with
  | zero => intro n_ mo o_6 o_7 o_8 s0 c0 b_n_ b_mo hS0 hF0 hC0 hG0 i0 i1 i2 i3 i4 i5 i6 i7 hm; exact absurd hm (by omega)
  | succ m ih =>
    intro n_ mo o_6 o_7 o_8 s0 c0 b_n_ b_mo hS0 hF0 hC0 hG0 i0 i1 i2 i3 i4 i5 i6 i7 hm
    have e1 : s0 3039 = s 3039 := hF0 3039 (by decide)
    have b2 : 0 ≤ (s0 3039) ∧ (s0 3039) ≤ 8192 := hS0 3039
    have b3 : 0 ≤ (s 3039) ∧ (s 3039) ≤ 8192 := hS 3039
    have e4 : s0 3017 = s 3017 := hF0 3017 (by decide)
    have b5 : 0 ≤ (s0 3017) ∧ (s0 3017) ≤ 65535 := hS0 3017
    have b6 : 0 ≤ (s 3017) ∧ (s 3017) ≤ 65535 := hS 3017
    have e7 : s0 3037 = s 3037 := hF0 3037 (by decide)
    have b8 : 0 ≤ (s0 3037) ∧ (s0 3037) ≤ 64 := hS0 3037
    have b9 : 0 ≤ (s 3037) ∧ (s 3037) ≤ 64 := hS 3037
    have e10 : s0 3036 = s 3036 := hF0 3036 (by decide)
    have b11 : 0 ≤ (s0 3036) ∧ (s0 3036) ≤ 1 := hS0 3036
    have b12 : 0 ≤ (s 3036) ∧ (s 3036) ≤ 1 := hS 3036
    have hc0_mv : mv s0 := mv_fr hF0 (by decide) hc_mv
    refine tt_k 1 (S' := (13, [some (.inr (.inl 30)), some (.inl x), some (.inl y), some (.inl run), some (.inl n_), some (.inl mo), o_6, o_7, o_8], [.inl mo], n, D, s0, p, c0)) rfl ?_
    refine tz_eq (x := mo) rfl rfl (by omega) (fun h13 => ?_) (fun h13 => ?_)
    · show tt Zi d 172 (232, [some (.inr (.inl 30)), some (.inl x), some (.inl y), some (.inl run), some (.inl n_), some (.inl mo), o_6, o_7, o_8], [], n, D, s0, p, c0) _
      exact hK n_ mo (o_6) (o_7) (o_8) s0 c0 (by omega) (by omega) hS0 hF0 hC0 hG0 i0 i1 i2 i3 i4 i5 i6 i7 (by omega)
    · show tt Zi d 172 (16, [some (.inr (.inl 30)), some (.inl x), some (.inl y), some (.inl run), some (.inl n_), some (.inl mo), o_6, o_7, o_8], [], n, D, s0, p, c0) _
      refine tt_k 2 (S' := (20, [some (.inr (.inl 30)), some (.inl x), some (.inl y), some (.inl run), some (.inl n_), some (.inl mo), o_6, o_7, o_8], [.inl (s0 3050)], n, D, s0, p, c0)) rfl ?_
      have b14 : 0 ≤ (s0 3050) ∧ (s0 3050) ≤ 8 := hS0 3050
      refine tz_ne (x := (s0 3050)) rfl rfl (by omega) (fun h15 => ?_) (fun h15 => ?_)
      · show tt Zi d 172 (232, [some (.inr (.inl 30)), some (.inl x), some (.inl y), some (.inl run), some (.inl n_), some (.inl mo), o_6, o_7, o_8], [], n, D, s0, p, c0) _
        exact hK n_ mo (o_6) (o_7) (o_8) s0 c0 (by omega) (by omega) hS0 hF0 hC0 hG0 i0 i1 i2 i3 i4 i5 i6 i7 (by omega)
      · show tt Zi d 172 (23, [some (.inr (.inl 30)), some (.inl x), some (.inl y), some (.inl run), some (.inl n_), some (.inl mo), o_6, o_7, o_8], [], n, D, s0, p, c0) _
        refine tt_k 1 (S' := (24, [some (.inr (.inl 30)), some (.inl x), some (.inl y), some (.inl run), some (.inl n_), some (.inl mo), o_6, o_7, o_8], [.inr (.inl 30)], n, D, s0, p, c0)) rfl ?_
        refine tt_cl (by omega) rfl (k_ready (Zi := Zi) (D := D) (s := s0) (p := p) (c := c0) (by omega) hS0 hC0 ) ?_
        rintro _ _ ⟨s16, rfl, rfl, hS16, f17, k18, k19, k20, k21⟩
        have hc22 : mv s16 := mv_fr f17 (by decide) hc0_mv
        show tt Zi d 172 (27, [some (.inr (.inl 30)), some (.inl x), some (.inl y), some (.inl run), some (.inl n_), some (.inl mo), o_6, o_7, o_8], [], n, D, s16, p, c0) _
        replace k18 : (s0 3049) ≤ (s16 3049) := k18
        replace k19 : (s16 3050) = 0 → 1 ≤ (s16 3054) := k19
        replace k20 : (s0 3050) ≠ 0 → (s16 3050) ≠ 0 := k20
        replace k21 : (s0 3049) ≤ 32768 → (s16 3049) ≤ 32768 := k21
        have b23 : 0 ≤ (s0 3049) ∧ (s0 3049) ≤ 32769 := hS0 3049
        have b24 : 0 ≤ (s16 3049) ∧ (s16 3049) ≤ 32769 := hS16 3049
        have b25 : 0 ≤ (s16 3050) ∧ (s16 3050) ≤ 8 := hS16 3050
        have b26 : 0 ≤ (s16 3054) ∧ (s16 3054) ≤ 8 := hS16 3054
        have e27 : s16 3039 = (s0 3039) := (f17 3039 (by decide))
        have b28 : 0 ≤ (s16 3039) ∧ (s16 3039) ≤ 8192 := hS16 3039
        have e29 : s16 3017 = (s0 3017) := (f17 3017 (by decide))
        have b30 : 0 ≤ (s16 3017) ∧ (s16 3017) ≤ 65535 := hS16 3017
        have e31 : s16 3037 = (s0 3037) := (f17 3037 (by decide))
        have b32 : 0 ≤ (s16 3037) ∧ (s16 3037) ≤ 64 := hS16 3037
        have e33 : s16 3035 = (s0 3035) := (f17 3035 (by decide))
        have b34 : 0 ≤ (s16 3035) ∧ (s16 3035) ≤ 31 := hS16 3035
        have b35 : 0 ≤ (s0 3035) ∧ (s0 3035) ≤ 31 := hS0 3035
        have e36 : s16 3036 = (s0 3036) := (f17 3036 (by decide))
        have b37 : 0 ≤ (s16 3036) ∧ (s16 3036) ≤ 1 := hS16 3036
        refine tt_k 5 (S' := (35, [some (.inr (.inl 30)), some (.inl x), some (.inl y), some (.inl run), some (.inl n_), some (.inl mo), some (.inl (s16 3053)), o_7, o_8], [.inr (.inl 30), .inl 1], n, D, s16, p, c0)) rfl ?_
        refine tt_cl (by omega) rfl (k_piecesJ (Zi := Zi) (D := D) (s := s16) (p := p) (c := c0) (by omega) hS16 hC0 (show 0 ≤ (s16 3035) ∧ (s16 3035) ≤ 22 by omega)) ?_
        rintro _ _ ⟨r38, rfl, rfl, b39, k40⟩
        show tt Zi d 172 (38, [some (.inr (.inl 30)), some (.inl x), some (.inl y), some (.inl run), some (.inl n_), some (.inl mo), some (.inl (s16 3053)), o_7, o_8], [.inl r38, .inl 1], n, D, s16, p, c0) _
        replace k40 : r38 = jj ((s16 3035)) := k40
        have h41 : r38 = 7 → mi_shl 1 r38 = 128 := by intro hq; rw [hq]; exact shl7
        have h42 : r38 ≤ 6 → (s16 3035) ≤ 21 := fun hq => jj_le6 (by omega) (by omega)
        refine tt_k 3 (S' := (42, [some (.inr (.inl 30)), some (.inl x), some (.inl y), some (.inl run), some (.inl n_), some (.inl mo), some (.inl (s16 3053)), some (.inl (mi_shl 1 r38)), o_8], [.inr (.inl 30)], n, D, s16, p, c0)) rfl ?_
        refine tt_cl (by omega) rfl (k_bit (Zi := Zi) (D := D) (s := s16) (p := p) (c := c0) (by omega) hS16 hC0 ) ?_
        rintro _ _ ⟨s43, r44, rfl, rfl, hS43, f45, b46, k47, k48, k49⟩
        have hc50 : mv s43 := mv_fr f45 (by decide) hc22
        show tt Zi d 172 (45, [some (.inr (.inl 30)), some (.inl x), some (.inl y), some (.inl run), some (.inl n_), some (.inl mo), some (.inl (s16 3053)), some (.inl (mi_shl 1 r38)), o_8], [.inl r44], n, D, s43, p, c0) _
        replace k47 : (s16 3049) ≤ (s43 3049) := k47
        replace k48 : (s16 3050) ≠ 0 → (s43 3050) ≠ 0 := k48
        replace k49 : (s16 3049) ≤ 32768 → (s43 3049) ≤ 32768 := k49
        have b51 : 0 ≤ (s43 3049) ∧ (s43 3049) ≤ 32769 := hS43 3049
        have b52 : 0 ≤ (s43 3050) ∧ (s43 3050) ≤ 8 := hS43 3050
        have e53 : s43 3039 = (s16 3039) := (f45 3039 (by decide))
        have b54 : 0 ≤ (s43 3039) ∧ (s43 3039) ≤ 8192 := hS43 3039
        have e55 : s43 3017 = (s16 3017) := (f45 3017 (by decide))
        have b56 : 0 ≤ (s43 3017) ∧ (s43 3017) ≤ 65535 := hS43 3017
        have e57 : s43 3037 = (s16 3037) := (f45 3037 (by decide))
        have b58 : 0 ≤ (s43 3037) ∧ (s43 3037) ≤ 64 := hS43 3037
        have e59 : s43 3035 = (s16 3035) := (f45 3035 (by decide))
        have b60 : 0 ≤ (s43 3035) ∧ (s43 3035) ≤ 31 := hS43 3035
        have e61 : s43 3036 = (s16 3036) := (f45 3036 (by decide))
        have b62 : 0 ≤ (s43 3036) ∧ (s43 3036) ≤ 1 := hS43 3036
        refine tt_k 1 (S' := (46, [some (.inr (.inl 30)), some (.inl x), some (.inl y), some (.inl run), some (.inl n_), some (.inl mo), some (.inl (s16 3053)), some (.inl (mi_shl 1 r38)), o_8], [.inl 1, .inl r44], n, D, s43, p, c0)) rfl ?_
        refine tb_ne (x := r44) (y := 1) rfl rfl (by omega) (fun h63 => ?_) (fun h63 => ?_)
        · show tt Zi d 172 (141, [some (.inr (.inl 30)), some (.inl x), some (.inl y), some (.inl run), some (.inl n_), some (.inl mo), some (.inl (s16 3053)), some (.inl (mi_shl 1 r38)), o_8], [], n, D, s43, p, c0) _
          refine tt_k 2 (S' := (145, [some (.inr (.inl 30)), some (.inl x), some (.inl y), some (.inl run), some (.inl n_), some (.inl mo), some (.inl (s16 3053)), some (.inl (mi_shl 1 r38)), o_8], [.inl (s43 3050)], n, D, s43, p, c0)) rfl ?_
          refine tz_ne (x := (s43 3050)) rfl rfl (by omega) (fun h64 => ?_) (fun h64 => ?_)
          · show tt Zi d 172 (229, [some (.inr (.inl 30)), some (.inl x), some (.inl y), some (.inl run), some (.inl n_), some (.inl mo), some (.inl (s16 3053)), some (.inl (mi_shl 1 r38)), o_8], [], n, D, s43, p, c0) _
            refine tt_k 1 (S' := (11, [some (.inr (.inl 30)), some (.inl x), some (.inl y), some (.inl run), some (.inl n_), some (.inl mo), some (.inl (s16 3053)), some (.inl (mi_shl 1 r38)), o_8], [], n, D, s43, p, c0)) rfl ?_
            exact ih n_ mo (some (.inl (s16 3053))) (some (.inl (mi_shl 1 r38))) (o_8) s43 c0 (by omega) (by omega) hS43 (fr_tr (fr_tr hF0 f17 (by decide)) f45 (by decide)) hC0 hG0 (fun hz => absurd hz (by omega)) (fun hz => absurd hz (by omega)) (show x + n_ ≤ s 3037 by omega) (show mo = 1 → x + n_ < s 3037 by omega) (show mo = 1 ∨ 1 ≤ n_ ∨ (s43 3050) ≠ 0 by omega) (show s 3049 ≤ (s43 3049) by omega) (show s 3049 ≤ 32768 → (s43 3049) ≤ 32768 by omega) (show 0 ≤ (s43 3035) ∧ (s43 3035) ≤ 22 by omega) (show (if mo = 1 ∧ (s43 3050) = 0 then s 3037 - x - n_ + 1 else 0).toNat < m by omega)
          · show tt Zi d 172 (148, [some (.inr (.inl 30)), some (.inl x), some (.inl y), some (.inl run), some (.inl n_), some (.inl mo), some (.inl (s16 3053)), some (.inl (mi_shl 1 r38)), o_8], [], n, D, s43, p, c0) _
            refine tt_k 2 (S' := (150, [some (.inr (.inl 30)), some (.inl x), some (.inl y), some (.inl run), some (.inl n_), some (.inl mo), some (.inl (s16 3053)), some (.inl (mi_shl 1 r38)), o_8], [.inr (.inl 30), .inr (.inl 30)], n, D, s43, p, c0)) rfl ?_
            refine tt_cl (by omega) rfl (k_piecesJ (Zi := Zi) (D := D) (s := s43) (p := p) (c := c0) (by omega) hS43 hC0 (show 0 ≤ (s43 3035) ∧ (s43 3035) ≤ 22 by omega)) ?_
            rintro _ _ ⟨r65, rfl, rfl, b66, k67⟩
            show tt Zi d 172 (153, [some (.inr (.inl 30)), some (.inl x), some (.inl y), some (.inl run), some (.inl n_), some (.inl mo), some (.inl (s16 3053)), some (.inl (mi_shl 1 r38)), o_8], [.inl r65, .inr (.inl 30)], n, D, s43, p, c0) _
            replace k67 : r65 = jj ((s43 3035)) := k67
            refine tt_cl (by omega) rfl (k_bits (Zi := Zi) (D := D) (s := s43) (p := p) (c := c0) (by omega) hS43 hC0 r65 (by omega)) ?_
            rintro _ _ ⟨s68, r69, rfl, rfl, hS68, f70, b71, k72, k73, k74, k75⟩
            have hc76 : mv s68 := mv_fr f70 (by decide) hc50
            show tt Zi d 172 (156, [some (.inr (.inl 30)), some (.inl x), some (.inl y), some (.inl run), some (.inl n_), some (.inl mo), some (.inl (s16 3053)), some (.inl (mi_shl 1 r38)), o_8], [.inl r69], n, D, s68, p, c0) _
            replace k72 : (s43 3049) ≤ (s68 3049) := k72
            replace k73 : r69 < 2 ^ r65.toNat := k73
            replace k74 : (s43 3050) ≠ 0 → (s68 3050) ≠ 0 := k74
            replace k75 : (s43 3049) ≤ 32768 → (s68 3049) ≤ 32768 := k75
            have b77 : 0 ≤ (s68 3049) ∧ (s68 3049) ≤ 32769 := hS68 3049
            have b78 : 0 ≤ (s68 3050) ∧ (s68 3050) ≤ 8 := hS68 3050
            have e79 : s68 3039 = (s43 3039) := (f70 3039 (by decide))
            have b80 : 0 ≤ (s68 3039) ∧ (s68 3039) ≤ 8192 := hS68 3039
            have e81 : s68 3017 = (s43 3017) := (f70 3017 (by decide))
            have b82 : 0 ≤ (s68 3017) ∧ (s68 3017) ≤ 65535 := hS68 3017
            have e83 : s68 3037 = (s43 3037) := (f70 3037 (by decide))
            have b84 : 0 ≤ (s68 3037) ∧ (s68 3037) ≤ 64 := hS68 3037
            have e85 : s68 3035 = (s43 3035) := (f70 3035 (by decide))
            have b86 : 0 ≤ (s68 3035) ∧ (s68 3035) ≤ 31 := hS68 3035
            have e87 : s68 3036 = (s43 3036) := (f70 3036 (by decide))
            have b88 : 0 ≤ (s68 3036) ∧ (s68 3036) ≤ 1 := hS68 3036
            refine tt_k 3 (S' := (162, [some (.inr (.inl 30)), some (.inl x), some (.inl y), some (.inl run), some (.inl n_), some (.inl mo), some (.inl (s16 3053)), some (.inl (mi_shl 1 r38)), some (.inl r69)], [.inl (s68 3050)], n, D, s68, p, c0)) rfl ?_
            refine tz_ne (x := (s68 3050)) rfl rfl (by omega) (fun h89 => ?_) (fun h89 => ?_)
            · show tt Zi d 172 (187, [some (.inr (.inl 30)), some (.inl x), some (.inl y), some (.inl run), some (.inl n_), some (.inl mo), some (.inl (s16 3053)), some (.inl (mi_shl 1 r38)), some (.inl r69)], [], n, D, s68, p, c0) _
              refine tt_k 2 (S' := (191, [some (.inr (.inl 30)), some (.inl x), some (.inl y), some (.inl run), some (.inl n_), some (.inl mo), some (.inl (s16 3053)), some (.inl (mi_shl 1 r38)), some (.inl r69)], [.inl (s68 3050)], n, D, s68, p, c0)) rfl ?_
              refine tz_ne (x := (s68 3050)) rfl rfl (by omega) (fun h90 => ?_) (fun h90 => ?_)
              · show tt Zi d 172 (226, [some (.inr (.inl 30)), some (.inl x), some (.inl y), some (.inl run), some (.inl n_), some (.inl mo), some (.inl (s16 3053)), some (.inl (mi_shl 1 r38)), some (.inl r69)], [], n, D, s68, p, c0) _
                refine tt_k 3 (S' := (11, [some (.inr (.inl 30)), some (.inl x), some (.inl y), some (.inl run), some (.inl n_), some (.inl 0), some (.inl (s16 3053)), some (.inl (mi_shl 1 r38)), some (.inl r69)], [], n, D, s68, p, c0)) rfl ?_
                exact ih n_ 0 (some (.inl (s16 3053))) (some (.inl (mi_shl 1 r38))) (some (.inl r69)) s68 c0 (by omega) (by omega) hS68 (fr_tr (fr_tr (fr_tr hF0 f17 (by decide)) f45 (by decide)) f70 (by decide)) hC0 hG0 (fun hz => absurd hz (by omega)) (fun hz => absurd hz (by omega)) (show x + n_ ≤ s 3037 by omega) (show 0 = 1 → x + n_ < s 3037 by omega) (show 0 = 1 ∨ 1 ≤ n_ ∨ (s68 3050) ≠ 0 by omega) (show s 3049 ≤ (s68 3049) by omega) (show s 3049 ≤ 32768 → (s68 3049) ≤ 32768 by omega) (show 0 ≤ (s68 3035) ∧ (s68 3035) ≤ 22 by omega) (show (if 0 = 1 ∧ (s68 3050) = 0 then s 3037 - x - n_ + 1 else 0).toNat < m by omega)
              · exfalso; omega
            · show tt Zi d 172 (165, [some (.inr (.inl 30)), some (.inl x), some (.inl y), some (.inl run), some (.inl n_), some (.inl mo), some (.inl (s16 3053)), some (.inl (mi_shl 1 r38)), some (.inl r69)], [], n, D, s68, p, c0) _
              refine tt_k 7 (S' := (176, [some (.inr (.inl 30)), some (.inl x), some (.inl y), some (.inl run), some (.inl n_), some (.inl mo), some (.inl (s16 3053)), some (.inl (mi_shl 1 r38)), some (.inl r69)], [.inl ((((s68 3037) - x) - n_)), .inl r69], n, D, s68, p, c0)) rfl ?_
              refine tb_lt (x := r69) (y := (((s68 3037) - x) - n_)) rfl rfl (by omega) (fun h91 => ?_) (fun h91 => ?_)
              · show tt Zi d 172 (187, [some (.inr (.inl 30)), some (.inl x), some (.inl y), some (.inl run), some (.inl n_), some (.inl mo), some (.inl (s16 3053)), some (.inl (mi_shl 1 r38)), some (.inl r69)], [], n, D, s68, p, c0) _
                refine tt_k 2 (S' := (191, [some (.inr (.inl 30)), some (.inl x), some (.inl y), some (.inl run), some (.inl n_), some (.inl mo), some (.inl (s16 3053)), some (.inl (mi_shl 1 r38)), some (.inl r69)], [.inl (s68 3050)], n, D, s68, p, c0)) rfl ?_
                refine tz_ne (x := (s68 3050)) rfl rfl (by omega) (fun h92 => ?_) (fun h92 => ?_)
                · exfalso; omega
                · show tt Zi d 172 (194, [some (.inr (.inl 30)), some (.inl x), some (.inl y), some (.inl run), some (.inl n_), some (.inl mo), some (.inl (s16 3053)), some (.inl (mi_shl 1 r38)), some (.inl r69)], [], n, D, s68, p, c0) _
                  refine tt_k 7 (S' := (203, [some (.inr (.inl 30)), some (.inl x), some (.inl y), some (.inl run), some (.inl n_), some (.inl mo), some (.inl (s16 3053)), some (.inl (mi_shl 1 r38)), some (.inl r69)], [.inl run, .inl r69, .inl y, .inl (x + n_), .inr (.inl 30)], n, D, s68, p, c0)) rfl ?_
                  refine tt_cl (by omega) rfl (k_fill (Zi := Zi) (D := D) (s := s68) (p := p) (c := c0) (by omega) hS68 hC0 (x + n_) y r69 run (by omega) (by omega) (by omega) (by omega) (show (x + r69) + r69 ≤ 64 by omega)) ?_
                  rintro _ _ ⟨c93, rfl, rfl, hC93, g94, k95, k96⟩
                  show tt Zi d 172 (206, [some (.inr (.inl 30)), some (.inl x), some (.inl y), some (.inl run), some (.inl n_), some (.inl mo), some (.inl (s16 3053)), some (.inl (mi_shl 1 r38)), some (.inl r69)], [], n, D, s68, p, c93) _
                  replace k95 : ∀ i : Nat, (i : Int) < (s68 3039) + 64 * y + (x + r69) ∨ (s68 3039) + 64 * y + (x + r69) + r69 ≤ i → (c93 44) i = (c0 44) i := k95
                  replace k96 : ∀ i : Nat, (s68 3039) + 64 * y + (x + r69) ≤ i → (i : Int) < (s68 3039) + 64 * y + (x + r69) + r69 → (c93 44) i = run := k96
                  have aW : s68 3037 = s0 3037 := ((f70 3037 (by decide)).trans ((f45 3037 (by decide)).trans (f17 3037 (by decide))))
                  have aB : s68 3039 = s0 3039 := ((f70 3039 (by decide)).trans ((f45 3039 (by decide)).trans (f17 3039 (by decide))))
                  have aM : s68 3017 = s0 3017 := ((f70 3017 (by decide)).trans ((f45 3017 (by decide)).trans (f17 3017 (by decide))))
                  have hTf : tb (s68 3037) (s68 3039) (s68 3017) (c93 44) ((x + n_) + r69) y := tb_fill (by rw [aW, aB, aM]; exact i1 (by omega)) (by omega) (by omega) (by omega) (by omega) (by omega) (by omega) (by omega) k95 k96
                  clear k95 k96
                  refine tt_k 10 (S' := (220, [some (.inr (.inl 30)), some (.inl x), some (.inl y), some (.inl run), some (.inl (n_ + r69)), some (.inl mo), some (.inl (s16 3053)), some (.inl (mi_shl 1 r38)), some (.inl r69)], [.inl run, .inl y, .inl (x + (n_ + r69)), .inr (.inl 30)], n, D, s68, p, c93)) rfl ?_
                  have aQ : s68 3025 = s0 3025 := ((f70 3025 (by decide)).trans ((f45 3025 (by decide)).trans (f17 3025 (by decide))))
                  have r36 : c93 36 = c0 36 := g94 36 (by decide)
                  have r37 : c93 37 = c0 37 := g94 37 (by decide)
                  have r38 : c93 38 = c0 38 := g94 38 (by decide)
                  have r39 : c93 39 = c0 39 := g94 39 (by decide)
                  refine tt_cl (by omega) rfl (k_stopR (Zi := Zi) (D := D) (s := s68) (p := p) (c := c93) (by omega) hS68 hC93 (t + (n_ + r69)) (x + (n_ + r69)) y run (by omega) (by omega) (by omega) hc76 (show (s68 3036) = 0 ∧ (s68 3050) = 0 ∧ (x + (n_ + r69)) < (s68 3037) by omega) (show run ≤ (s68 3017) by omega) (pl_mono (pl_eq aQ r36 r37 r38 r39 (i0 (by omega))) (by omega)) (by rw [show x + (n_ + r69) = x + n_ + r69 by omega]; exact hTf) (show 0 ≤ (t + (n_ + r69)) ∧ (t + (n_ + r69)) ≤ 4095 by omega) (show 0 ≤ (s68 3035) ∧ (s68 3035) ≤ 22 by omega)) ?_
                  rintro _ _ ⟨s98, c99, rfl, rfl, hS98, hC99, f100, g101, k102, k103, k104, k105, k106⟩
                  have hc107 : mv s98 := mv_fr f100 (by decide) hc76
                  show tt Zi d 172 (223, [some (.inr (.inl 30)), some (.inl x), some (.inl y), some (.inl run), some (.inl (n_ + r69)), some (.inl mo), some (.inl (s16 3053)), some (.inl (mi_shl 1 r38)), some (.inl r69)], [], n, D, s98, p, c99) _
                  replace k102 : (s98 3050) = 0 → pl s98 ((t + (n_ + r69)) + 1) c99 := k102
                  replace k103 : (s98 3050) = 0 → tb ((s98 3037)) ((s98 3039)) ((s98 3017)) ((c99 44)) ((x + (n_ + r69)) + 1) y := k103
                  replace k104 : (s68 3049) ≤ (s98 3049) := k104
                  replace k105 : (s68 3049) ≤ 32768 → (s98 3049) ≤ 32768 := k105
                  replace k106 : 0 ≤ (s98 3035) ∧ (s98 3035) ≤ 22 := k106
                  have b108 : 0 ≤ (s98 3050) ∧ (s98 3050) ≤ 8 := hS98 3050
                  have b109 : 0 ≤ (s98 3037) ∧ (s98 3037) ≤ 64 := hS98 3037
                  have b110 : 0 ≤ (s98 3039) ∧ (s98 3039) ≤ 8192 := hS98 3039
                  have b111 : 0 ≤ (s98 3017) ∧ (s98 3017) ≤ 65535 := hS98 3017
                  have b112 : 0 ≤ (s98 3049) ∧ (s98 3049) ≤ 32769 := hS98 3049
                  have b113 : 0 ≤ (s98 3035) ∧ (s98 3035) ≤ 31 := hS98 3035
                  have e114 : s98 3039 = (s68 3039) := (f100 3039 (by decide))
                  have e115 : s98 3017 = (s68 3017) := (f100 3017 (by decide))
                  have e116 : s98 3037 = (s68 3037) := (f100 3037 (by decide))
                  have e117 : s98 3036 = (s68 3036) := (f100 3036 (by decide))
                  have b118 : 0 ≤ (s98 3036) ∧ (s98 3036) ≤ 1 := hS98 3036
                  refine tt_k 4 (S' := (11, [some (.inr (.inl 30)), some (.inl x), some (.inl y), some (.inl run), some (.inl ((n_ + r69) + 1)), some (.inl 0), some (.inl (s16 3053)), some (.inl (mi_shl 1 r38)), some (.inl r69)], [], n, D, s98, p, c99)) rfl ?_
                  exact ih ((n_ + r69) + 1) 0 (some (.inl (s16 3053))) (some (.inl (mi_shl 1 r38))) (some (.inl r69)) s98 c99 (by omega) (by omega) hS98 (fr_tr (fr_tr (fr_tr (fr_tr hF0 f17 (by decide)) f45 (by decide)) f70 (by decide)) f100 (by decide)) hC99 (frc_tr (frc_tr hG0 g94 (by decide)) g101 (by decide)) (fun hz => pl_mono (k102 hz) (by omega)) (by rw [show x + ((n_ + r69) + 1) = (x + (n_ + r69)) + 1 by omega]; exact k103) (show x + ((n_ + r69) + 1) ≤ s 3037 by omega) (show 0 = 1 → x + ((n_ + r69) + 1) < s 3037 by omega) (show 0 = 1 ∨ 1 ≤ ((n_ + r69) + 1) ∨ (s98 3050) ≠ 0 by omega) (show s 3049 ≤ (s98 3049) by omega) (show s 3049 ≤ 32768 → (s98 3049) ≤ 32768 by omega) (show 0 ≤ (s98 3035) ∧ (s98 3035) ≤ 22 by omega) (show (if 0 = 1 ∧ (s98 3050) = 0 then s 3037 - x - ((n_ + r69) + 1) + 1 else 0).toNat < m by omega)
              · show tt Zi d 172 (179, [some (.inr (.inl 30)), some (.inl x), some (.inl y), some (.inl run), some (.inl n_), some (.inl mo), some (.inl (s16 3053)), some (.inl (mi_shl 1 r38)), some (.inl r69)], [], n, D, s68, p, c0) _
                refine tt_k 3 (S' := (184, [some (.inr (.inl 30)), some (.inl x), some (.inl y), some (.inl run), some (.inl n_), some (.inl mo), some (.inl (s16 3053)), some (.inl (mi_shl 1 r38)), some (.inl r69)], [.inl (s16 3053), .inl 7, .inr (.inl 30)], n, D, s68, p, c0)) rfl ?_
                have b119 : 0 ≤ (s16 3053) ∧ (s16 3053) ≤ 32768 := hS16 3053
                refine tt_cl (by omega) rfl (k_fail (Zi := Zi) (D := D) (s := s68) (p := p) (c := c0) (by omega) hS68 hC0 7 (s16 3053) (by omega) (by omega)) ?_
                rintro _ _ ⟨s120, rfl, rfl, hS120, f121, k122, k123⟩
                have hc124 : mv s120 := mv_fr f121 (by decide) hc76
                show tt Zi d 172 (187, [some (.inr (.inl 30)), some (.inl x), some (.inl y), some (.inl run), some (.inl n_), some (.inl mo), some (.inl (s16 3053)), some (.inl (mi_shl 1 r38)), some (.inl r69)], [], n, D, s120, p, c0) _
                replace k122 : ((s68 3050) = 0 → (s120 3050) = 7 ∧ (s120 3051) = (s16 3053)) := k122
                replace k123 : ((s68 3050) ≠ 0 → (s120 3050) = (s68 3050) ∧ (s120 3051) = (s68 3051)) := k123
                have b125 : 0 ≤ (s120 3050) ∧ (s120 3050) ≤ 8 := hS120 3050
                have b126 : -1 ≤ (s120 3051) ∧ (s120 3051) ≤ 32769 := hS120 3051
                have b127 : -1 ≤ (s68 3051) ∧ (s68 3051) ≤ 32769 := hS68 3051
                have e128 : s120 3039 = (s68 3039) := (f121 3039 (by decide))
                have b129 : 0 ≤ (s120 3039) ∧ (s120 3039) ≤ 8192 := hS120 3039
                have e130 : s120 3017 = (s68 3017) := (f121 3017 (by decide))
                have b131 : 0 ≤ (s120 3017) ∧ (s120 3017) ≤ 65535 := hS120 3017
                have e132 : s120 3037 = (s68 3037) := (f121 3037 (by decide))
                have b133 : 0 ≤ (s120 3037) ∧ (s120 3037) ≤ 64 := hS120 3037
                have e134 : s120 3035 = (s68 3035) := (f121 3035 (by decide))
                have b135 : 0 ≤ (s120 3035) ∧ (s120 3035) ≤ 31 := hS120 3035
                have e136 : s120 3049 = (s68 3049) := (f121 3049 (by decide))
                have b137 : 0 ≤ (s120 3049) ∧ (s120 3049) ≤ 32769 := hS120 3049
                have e138 : s120 3036 = (s68 3036) := (f121 3036 (by decide))
                have b139 : 0 ≤ (s120 3036) ∧ (s120 3036) ≤ 1 := hS120 3036
                refine tt_k 2 (S' := (191, [some (.inr (.inl 30)), some (.inl x), some (.inl y), some (.inl run), some (.inl n_), some (.inl mo), some (.inl (s16 3053)), some (.inl (mi_shl 1 r38)), some (.inl r69)], [.inl (s120 3050)], n, D, s120, p, c0)) rfl ?_
                refine tz_ne (x := (s120 3050)) rfl rfl (by omega) (fun h140 => ?_) (fun h140 => ?_)
                · show tt Zi d 172 (226, [some (.inr (.inl 30)), some (.inl x), some (.inl y), some (.inl run), some (.inl n_), some (.inl mo), some (.inl (s16 3053)), some (.inl (mi_shl 1 r38)), some (.inl r69)], [], n, D, s120, p, c0) _
                  refine tt_k 3 (S' := (11, [some (.inr (.inl 30)), some (.inl x), some (.inl y), some (.inl run), some (.inl n_), some (.inl 0), some (.inl (s16 3053)), some (.inl (mi_shl 1 r38)), some (.inl r69)], [], n, D, s120, p, c0)) rfl ?_
                  exact ih n_ 0 (some (.inl (s16 3053))) (some (.inl (mi_shl 1 r38))) (some (.inl r69)) s120 c0 (by omega) (by omega) hS120 (fr_tr (fr_tr (fr_tr (fr_tr hF0 f17 (by decide)) f45 (by decide)) f70 (by decide)) f121 (by decide)) hC0 hG0 (fun hz => absurd hz (by omega)) (fun hz => absurd hz (by omega)) (show x + n_ ≤ s 3037 by omega) (show 0 = 1 → x + n_ < s 3037 by omega) (show 0 = 1 ∨ 1 ≤ n_ ∨ (s120 3050) ≠ 0 by omega) (show s 3049 ≤ (s120 3049) by omega) (show s 3049 ≤ 32768 → (s120 3049) ≤ 32768 by omega) (show 0 ≤ (s120 3035) ∧ (s120 3035) ≤ 22 by omega) (show (if 0 = 1 ∧ (s120 3050) = 0 then s 3037 - x - n_ + 1 else 0).toNat < m by omega)
                · show tt Zi d 172 (194, [some (.inr (.inl 30)), some (.inl x), some (.inl y), some (.inl run), some (.inl n_), some (.inl mo), some (.inl (s16 3053)), some (.inl (mi_shl 1 r38)), some (.inl r69)], [], n, D, s120, p, c0) _
                  refine tt_k 7 (S' := (203, [some (.inr (.inl 30)), some (.inl x), some (.inl y), some (.inl run), some (.inl n_), some (.inl mo), some (.inl (s16 3053)), some (.inl (mi_shl 1 r38)), some (.inl r69)], [.inl run, .inl r69, .inl y, .inl (x + n_), .inr (.inl 30)], n, D, s120, p, c0)) rfl ?_
                  refine tt_cl (by omega) rfl (k_fill (Zi := Zi) (D := D) (s := s120) (p := p) (c := c0) (by omega) hS120 hC0 (x + n_) y r69 run (by omega) (by omega) (by omega) (by omega) (show (x + r69) + r69 ≤ 64 by omega)) ?_
                  rintro _ _ ⟨c141, rfl, rfl, hC141, g142, k143, k144⟩
                  show tt Zi d 172 (206, [some (.inr (.inl 30)), some (.inl x), some (.inl y), some (.inl run), some (.inl n_), some (.inl mo), some (.inl (s16 3053)), some (.inl (mi_shl 1 r38)), some (.inl r69)], [], n, D, s120, p, c141) _
                  replace k143 : ∀ i : Nat, (i : Int) < (s120 3039) + 64 * y + (x + r69) ∨ (s120 3039) + 64 * y + (x + r69) + r69 ≤ i → (c141 44) i = (c0 44) i := k143
                  replace k144 : ∀ i : Nat, (s120 3039) + 64 * y + (x + r69) ≤ i → (i : Int) < (s120 3039) + 64 * y + (x + r69) + r69 → (c141 44) i = run := k144
                  have aW : s120 3037 = s0 3037 := ((f121 3037 (by decide)).trans ((f70 3037 (by decide)).trans ((f45 3037 (by decide)).trans (f17 3037 (by decide)))))
                  have aB : s120 3039 = s0 3039 := ((f121 3039 (by decide)).trans ((f70 3039 (by decide)).trans ((f45 3039 (by decide)).trans (f17 3039 (by decide)))))
                  have aM : s120 3017 = s0 3017 := ((f121 3017 (by decide)).trans ((f70 3017 (by decide)).trans ((f45 3017 (by decide)).trans (f17 3017 (by decide)))))
                  have hTf : tb (s120 3037) (s120 3039) (s120 3017) (c141 44) ((x + n_) + r69) y := tb_fill (by rw [aW, aB, aM]; exact i1 (by omega)) (by omega) (by omega) (by omega) (by omega) (by omega) (by omega) (by omega) k143 k144
                  clear k143 k144
                  refine tt_k 10 (S' := (220, [some (.inr (.inl 30)), some (.inl x), some (.inl y), some (.inl run), some (.inl (n_ + r69)), some (.inl mo), some (.inl (s16 3053)), some (.inl (mi_shl 1 r38)), some (.inl r69)], [.inl run, .inl y, .inl (x + (n_ + r69)), .inr (.inl 30)], n, D, s120, p, c141)) rfl ?_
                  have aQ : s120 3025 = s0 3025 := ((f121 3025 (by decide)).trans ((f70 3025 (by decide)).trans ((f45 3025 (by decide)).trans (f17 3025 (by decide)))))
                  have r36 : c141 36 = c0 36 := g142 36 (by decide)
                  have r37 : c141 37 = c0 37 := g142 37 (by decide)
                  have r38 : c141 38 = c0 38 := g142 38 (by decide)
                  have r39 : c141 39 = c0 39 := g142 39 (by decide)
                  refine tt_cl (by omega) rfl (k_stopR (Zi := Zi) (D := D) (s := s120) (p := p) (c := c141) (by omega) hS120 hC141 (t + (n_ + r69)) (x + (n_ + r69)) y run (by omega) (by omega) (by omega) hc124 (show (s120 3036) = 0 ∧ (s120 3050) = 0 ∧ (x + (n_ + r69)) < (s120 3037) by omega) (show run ≤ (s120 3017) by omega) (pl_mono (pl_eq aQ r36 r37 r38 r39 (i0 (by omega))) (by omega)) (by rw [show x + (n_ + r69) = x + n_ + r69 by omega]; exact hTf) (show 0 ≤ (t + (n_ + r69)) ∧ (t + (n_ + r69)) ≤ 4095 by omega) (show 0 ≤ (s120 3035) ∧ (s120 3035) ≤ 22 by omega)) ?_
                  rintro _ _ ⟨s146, c147, rfl, rfl, hS146, hC147, f148, g149, k150, k151, k152, k153, k154⟩
                  have hc155 : mv s146 := mv_fr f148 (by decide) hc124
                  show tt Zi d 172 (223, [some (.inr (.inl 30)), some (.inl x), some (.inl y), some (.inl run), some (.inl (n_ + r69)), some (.inl mo), some (.inl (s16 3053)), some (.inl (mi_shl 1 r38)), some (.inl r69)], [], n, D, s146, p, c147) _
                  replace k150 : (s146 3050) = 0 → pl s146 ((t + (n_ + r69)) + 1) c147 := k150
                  replace k151 : (s146 3050) = 0 → tb ((s146 3037)) ((s146 3039)) ((s146 3017)) ((c147 44)) ((x + (n_ + r69)) + 1) y := k151
                  replace k152 : (s120 3049) ≤ (s146 3049) := k152
                  replace k153 : (s120 3049) ≤ 32768 → (s146 3049) ≤ 32768 := k153
                  replace k154 : 0 ≤ (s146 3035) ∧ (s146 3035) ≤ 22 := k154
                  have b156 : 0 ≤ (s146 3050) ∧ (s146 3050) ≤ 8 := hS146 3050
                  have b157 : 0 ≤ (s146 3037) ∧ (s146 3037) ≤ 64 := hS146 3037
                  have b158 : 0 ≤ (s146 3039) ∧ (s146 3039) ≤ 8192 := hS146 3039
                  have b159 : 0 ≤ (s146 3017) ∧ (s146 3017) ≤ 65535 := hS146 3017
                  have b160 : 0 ≤ (s146 3049) ∧ (s146 3049) ≤ 32769 := hS146 3049
                  have b161 : 0 ≤ (s146 3035) ∧ (s146 3035) ≤ 31 := hS146 3035
                  have e162 : s146 3039 = (s120 3039) := (f148 3039 (by decide))
                  have e163 : s146 3017 = (s120 3017) := (f148 3017 (by decide))
                  have e164 : s146 3037 = (s120 3037) := (f148 3037 (by decide))
                  have e165 : s146 3036 = (s120 3036) := (f148 3036 (by decide))
                  have b166 : 0 ≤ (s146 3036) ∧ (s146 3036) ≤ 1 := hS146 3036
                  refine tt_k 4 (S' := (11, [some (.inr (.inl 30)), some (.inl x), some (.inl y), some (.inl run), some (.inl ((n_ + r69) + 1)), some (.inl 0), some (.inl (s16 3053)), some (.inl (mi_shl 1 r38)), some (.inl r69)], [], n, D, s146, p, c147)) rfl ?_
                  exact ih ((n_ + r69) + 1) 0 (some (.inl (s16 3053))) (some (.inl (mi_shl 1 r38))) (some (.inl r69)) s146 c147 (by omega) (by omega) hS146 (fr_tr (fr_tr (fr_tr (fr_tr (fr_tr hF0 f17 (by decide)) f45 (by decide)) f70 (by decide)) f121 (by decide)) f148 (by decide)) hC147 (frc_tr (frc_tr hG0 g142 (by decide)) g149 (by decide)) (fun hz => pl_mono (k150 hz) (by omega)) (by rw [show x + ((n_ + r69) + 1) = (x + (n_ + r69)) + 1 by omega]; exact k151) (show x + ((n_ + r69) + 1) ≤ s 3037 by omega) (show 0 = 1 → x + ((n_ + r69) + 1) < s 3037 by omega) (show 0 = 1 ∨ 1 ≤ ((n_ + r69) + 1) ∨ (s146 3050) ≠ 0 by omega) (show s 3049 ≤ (s146 3049) by omega) (show s 3049 ≤ 32768 → (s146 3049) ≤ 32768 by omega) (show 0 ≤ (s146 3035) ∧ (s146 3035) ≤ 22 by omega) (show (if 0 = 1 ∧ (s146 3050) = 0 then s 3037 - x - ((n_ + r69) + 1) + 1 else 0).toNat < m by omega)
        · show tt Zi d 172 (49, [some (.inr (.inl 30)), some (.inl x), some (.inl y), some (.inl run), some (.inl n_), some (.inl mo), some (.inl (s16 3053)), some (.inl (mi_shl 1 r38)), o_8], [], n, D, s43, p, c0) _
          refine tt_k 2 (S' := (53, [some (.inr (.inl 30)), some (.inl x), some (.inl y), some (.inl run), some (.inl n_), some (.inl mo), some (.inl (s16 3053)), some (.inl (mi_shl 1 r38)), o_8], [.inl (s43 3050)], n, D, s43, p, c0)) rfl ?_
          refine tz_ne (x := (s43 3050)) rfl rfl (by omega) (fun h167 => ?_) (fun h167 => ?_)
          · show tt Zi d 172 (141, [some (.inr (.inl 30)), some (.inl x), some (.inl y), some (.inl run), some (.inl n_), some (.inl mo), some (.inl (s16 3053)), some (.inl (mi_shl 1 r38)), o_8], [], n, D, s43, p, c0) _
            refine tt_k 2 (S' := (145, [some (.inr (.inl 30)), some (.inl x), some (.inl y), some (.inl run), some (.inl n_), some (.inl mo), some (.inl (s16 3053)), some (.inl (mi_shl 1 r38)), o_8], [.inl (s43 3050)], n, D, s43, p, c0)) rfl ?_
            refine tz_ne (x := (s43 3050)) rfl rfl (by omega) (fun h168 => ?_) (fun h168 => ?_)
            · show tt Zi d 172 (229, [some (.inr (.inl 30)), some (.inl x), some (.inl y), some (.inl run), some (.inl n_), some (.inl mo), some (.inl (s16 3053)), some (.inl (mi_shl 1 r38)), o_8], [], n, D, s43, p, c0) _
              refine tt_k 1 (S' := (11, [some (.inr (.inl 30)), some (.inl x), some (.inl y), some (.inl run), some (.inl n_), some (.inl mo), some (.inl (s16 3053)), some (.inl (mi_shl 1 r38)), o_8], [], n, D, s43, p, c0)) rfl ?_
              exact ih n_ mo (some (.inl (s16 3053))) (some (.inl (mi_shl 1 r38))) (o_8) s43 c0 (by omega) (by omega) hS43 (fr_tr (fr_tr hF0 f17 (by decide)) f45 (by decide)) hC0 hG0 (fun hz => absurd hz (by omega)) (fun hz => absurd hz (by omega)) (show x + n_ ≤ s 3037 by omega) (show mo = 1 → x + n_ < s 3037 by omega) (show mo = 1 ∨ 1 ≤ n_ ∨ (s43 3050) ≠ 0 by omega) (show s 3049 ≤ (s43 3049) by omega) (show s 3049 ≤ 32768 → (s43 3049) ≤ 32768 by omega) (show 0 ≤ (s43 3035) ∧ (s43 3035) ≤ 22 by omega) (show (if mo = 1 ∧ (s43 3050) = 0 then s 3037 - x - n_ + 1 else 0).toNat < m by omega)
            · exfalso; omega
          · show tt Zi d 172 (56, [some (.inr (.inl 30)), some (.inl x), some (.inl y), some (.inl run), some (.inl n_), some (.inl mo), some (.inl (s16 3053)), some (.inl (mi_shl 1 r38)), o_8], [], n, D, s43, p, c0) _
            refine tt_k 7 (S' := (67, [some (.inr (.inl 30)), some (.inl x), some (.inl y), some (.inl run), some (.inl n_), some (.inl mo), some (.inl (s16 3053)), some (.inl (mi_shl 1 r38)), o_8], [.inl ((((s43 3037) - x) - n_)), .inl (mi_shl 1 r38)], n, D, s43, p, c0)) rfl ?_
            have e169 : 1 ≤ (mi_shl 1 r38) ∧ (mi_shl 1 r38) ≤ 128 := mi_shl1b 0 7 (by omega) (by omega) (by decide)
            refine tt_cl (by omega) rfl (k_less (Zi := Zi) (D := D) (s := s43) (p := p) (c := c0) (by omega) hS43 hC0 (mi_shl 1 r38) ((((s43 3037) - x) - n_)) (by omega) (by omega)) ?_
            rintro _ _ ⟨r170, rfl, rfl, b171, k172⟩
            show tt Zi d 172 (70, [some (.inr (.inl 30)), some (.inl x), some (.inl y), some (.inl run), some (.inl n_), some (.inl mo), some (.inl (s16 3053)), some (.inl (mi_shl 1 r38)), o_8], [.inl r170], n, D, s43, p, c0) _
            replace k172 : r170 = min (mi_shl 1 r38) ((((s43 3037) - x) - n_)) := k172
            subst k172
            show tt Zi d 172 (70, [some (.inr (.inl 30)), some (.inl x), some (.inl y), some (.inl run), some (.inl n_), some (.inl mo), some (.inl (s16 3053)), some (.inl (mi_shl 1 r38)), o_8], [.inl ((min (mi_shl 1 r38) ((((s43 3037) - x) - n_))))], n, D, s43, p, c0) _
            refine tt_k 8 (S' := (81, [some (.inr (.inl 30)), some (.inl x), some (.inl y), some (.inl run), some (.inl n_), some (.inl mo), some (.inl (s16 3053)), some (.inl (mi_shl 1 r38)), some (.inl ((min (mi_shl 1 r38) ((((s43 3037) - x) - n_)))))], [.inl run, .inl ((min (mi_shl 1 r38) ((((s43 3037) - x) - n_)))), .inl y, .inl (x + n_), .inr (.inl 30)], n, D, s43, p, c0)) rfl ?_
            refine tt_cl (by omega) rfl (k_fill (Zi := Zi) (D := D) (s := s43) (p := p) (c := c0) (by omega) hS43 hC0 (x + n_) y ((min (mi_shl 1 r38) ((((s43 3037) - x) - n_)))) run (by omega) (by omega) (by omega) (by omega) (show (x + ((min (mi_shl 1 r38) ((((s43 3037) - x) - n_))))) + ((min (mi_shl 1 r38) ((((s43 3037) - x) - n_)))) ≤ 64 by omega)) ?_
            rintro _ _ ⟨c173, rfl, rfl, hC173, g174, k175, k176⟩
            show tt Zi d 172 (84, [some (.inr (.inl 30)), some (.inl x), some (.inl y), some (.inl run), some (.inl n_), some (.inl mo), some (.inl (s16 3053)), some (.inl (mi_shl 1 r38)), some (.inl ((min (mi_shl 1 r38) ((((s43 3037) - x) - n_)))))], [], n, D, s43, p, c173) _
            replace k175 : ∀ i : Nat, (i : Int) < (s43 3039) + 64 * y + (x + ((min (mi_shl 1 r38) ((((s43 3037) - x) - n_))))) ∨ (s43 3039) + 64 * y + (x + ((min (mi_shl 1 r38) ((((s43 3037) - x) - n_))))) + ((min (mi_shl 1 r38) ((((s43 3037) - x) - n_)))) ≤ i → (c173 44) i = (c0 44) i := k175
            replace k176 : ∀ i : Nat, (s43 3039) + 64 * y + (x + ((min (mi_shl 1 r38) ((((s43 3037) - x) - n_))))) ≤ i → (i : Int) < (s43 3039) + 64 * y + (x + ((min (mi_shl 1 r38) ((((s43 3037) - x) - n_))))) + ((min (mi_shl 1 r38) ((((s43 3037) - x) - n_)))) → (c173 44) i = run := k176
            have aW : s43 3037 = s0 3037 := ((f45 3037 (by decide)).trans (f17 3037 (by decide)))
            have aB : s43 3039 = s0 3039 := ((f45 3039 (by decide)).trans (f17 3039 (by decide)))
            have aM : s43 3017 = s0 3017 := ((f45 3017 (by decide)).trans (f17 3017 (by decide)))
            have hTf : tb (s43 3037) (s43 3039) (s43 3017) (c173 44) ((x + n_) + ((min (mi_shl 1 r38) ((((s43 3037) - x) - n_))))) y := tb_fill (by rw [aW, aB, aM]; exact i1 (by omega)) (by omega) (by omega) (by omega) (by omega) (by omega) (by omega) (by omega) k175 k176
            clear k175 k176
            refine tt_k 7 (S' := (96, [some (.inr (.inl 30)), some (.inl x), some (.inl y), some (.inl run), some (.inl ((n_ + (min (mi_shl 1 r38) ((((s43 3037) - x) - n_)))))), some (.inl mo), some (.inl (s16 3053)), some (.inl (mi_shl 1 r38)), some (.inl ((min (mi_shl 1 r38) ((((s43 3037) - x) - n_)))))], [.inl (mi_shl 1 r38), .inl ((min (mi_shl 1 r38) ((((s43 3037) - x) - n_)))), .inr (.inl 30)], n, D, s43, p, c173)) rfl ?_
            have K179 : ∀ (j178 : Int) , (-2147483648 ≤ j178 ∧ j178 ≤ 2147483647) → (0 ≤ j178 ∧ j178 ≤ 22) → (True) → tt Zi d 172 (117, [some (.inr (.inl 30)), some (.inl x), some (.inl y), some (.inl run), some (.inl ((n_ + (min (mi_shl 1 r38) ((((s43 3037) - x) - n_)))))), some (.inl mo), some (.inl (s16 3053)), some (.inl (mi_shl 1 r38)), some (.inl ((min (mi_shl 1 r38) ((((s43 3037) - x) - n_)))))], [.inl j178, .inr (.inl 30)], n, D, s43, p, c173) Q := by
              intro j178 b181 b182 hj180
              refine tt_k 6 (S' := (128, [some (.inr (.inl 30)), some (.inl x), some (.inl y), some (.inl run), some (.inl ((n_ + (min (mi_shl 1 r38) ((((s43 3037) - x) - n_)))))), some (.inl mo), some (.inl (s16 3053)), some (.inl (mi_shl 1 r38)), some (.inl ((min (mi_shl 1 r38) ((((s43 3037) - x) - n_)))))], [.inl (s43 3037), .inl ((x + (n_ + (min (mi_shl 1 r38) ((((s43 3037) - x) - n_))))))], n, D, (us s43 3035 j178), p, c173)) rfl ?_
              have K184 : ∀ (j183 : Int) , (0 ≤ j183 ∧ j183 ≤ 1) → (((s43 3037) ≤ (x + (n_ + (min (mi_shl 1 r38) ((((s43 3037) - x) - n_))))) ∧ j183 = 0) ∨ ((x + (n_ + (min (mi_shl 1 r38) ((((s43 3037) - x) - n_))))) < (s43 3037) ∧ j183 = 1)) → tt Zi d 172 (136, [some (.inr (.inl 30)), some (.inl x), some (.inl y), some (.inl run), some (.inl ((n_ + (min (mi_shl 1 r38) ((((s43 3037) - x) - n_)))))), some (.inl mo), some (.inl (s16 3053)), some (.inl (mi_shl 1 r38)), some (.inl ((min (mi_shl 1 r38) ((((s43 3037) - x) - n_)))))], [.inl j183], n, D, (us s43 3035 j178), p, c173) Q := by
                intro j183 b186 hj185
                refine tt_k 3 (S' := (11, [some (.inr (.inl 30)), some (.inl x), some (.inl y), some (.inl run), some (.inl ((n_ + (min (mi_shl 1 r38) ((((s43 3037) - x) - n_)))))), some (.inl j183), some (.inl (s16 3053)), some (.inl (mi_shl 1 r38)), some (.inl ((min (mi_shl 1 r38) ((((s43 3037) - x) - n_)))))], [], n, D, (us s43 3035 j178), p, c173)) rfl ?_
                have aQ : s43 3025 = s0 3025 := ((f45 3025 (by decide)).trans (f17 3025 (by decide)))
                have r36 : c173 36 = c0 36 := g174 36 (by decide)
                have r37 : c173 37 = c0 37 := g174 37 (by decide)
                have r38 : c173 38 = c0 38 := g174 38 (by decide)
                have r39 : c173 39 = c0 39 := g174 39 (by decide)
                exact ih ((n_ + (min (mi_shl 1 r38) ((((s43 3037) - x) - n_))))) j183 (some (.inl (s16 3053))) (some (.inl (mi_shl 1 r38))) (some (.inl ((min (mi_shl 1 r38) ((((s43 3037) - x) - n_)))))) (us s43 3035 j178) c173 (by omega) (by omega) (bS_us hS43 (show 0 ≤ j178 ∧ j178 ≤ 31 by omega)) (fr_us (by decide) (fr_tr (fr_tr hF0 f17 (by decide)) f45 (by decide))) hC173 (frc_tr hG0 g174 (by decide)) (fun hz => pl_mono (pl_eq (s := s0) aQ r36 r37 r38 r39 (i0 (by omega))) (by omega)) (by intro hz; rw [show x + (n_ + (min (mi_shl 1 r38) ((((s43 3037) - x) - n_)))) = x + n_ + (min (mi_shl 1 r38) ((((s43 3037) - x) - n_))) by omega]; exact hTf) (show x + ((n_ + (min (mi_shl 1 r38) ((((s43 3037) - x) - n_))))) ≤ s 3037 by omega) (show j183 = 1 → x + ((n_ + (min (mi_shl 1 r38) ((((s43 3037) - x) - n_))))) < s 3037 by omega) (show j183 = 1 ∨ 1 ≤ ((n_ + (min (mi_shl 1 r38) ((((s43 3037) - x) - n_))))) ∨ (s43 3050) ≠ 0 by omega) (show s 3049 ≤ (s43 3049) by omega) (show s 3049 ≤ 32768 → (s43 3049) ≤ 32768 by omega) (show 0 ≤ j178 ∧ j178 ≤ 22 by omega) (show (if j183 = 1 ∧ (s43 3050) = 0 then s 3037 - x - ((n_ + (min (mi_shl 1 r38) ((((s43 3037) - x) - n_))))) + 1 else 0).toNat < m by omega)
              refine tb_ge (x := (x + (n_ + (min (mi_shl 1 r38) ((((s43 3037) - x) - n_)))))) (y := (s43 3037)) rfl rfl (by omega) (fun h187 => ?_) (fun h187 => ?_)
              · show tt Zi d 172 (135, [some (.inr (.inl 30)), some (.inl x), some (.inl y), some (.inl run), some (.inl ((n_ + (min (mi_shl 1 r38) ((((s43 3037) - x) - n_)))))), some (.inl mo), some (.inl (s16 3053)), some (.inl (mi_shl 1 r38)), some (.inl ((min (mi_shl 1 r38) ((((s43 3037) - x) - n_)))))], [], n, D, (us s43 3035 j178), p, c173) _
                refine tt_k 1 (S' := (136, [some (.inr (.inl 30)), some (.inl x), some (.inl y), some (.inl run), some (.inl ((n_ + (min (mi_shl 1 r38) ((((s43 3037) - x) - n_)))))), some (.inl mo), some (.inl (s16 3053)), some (.inl (mi_shl 1 r38)), some (.inl ((min (mi_shl 1 r38) ((((s43 3037) - x) - n_)))))], [.inl 0], n, D, (us s43 3035 j178), p, c173)) rfl ?_
                exact K184 0  (by omega) (Or.inl ⟨h187, rfl⟩)
              · show tt Zi d 172 (131, [some (.inr (.inl 30)), some (.inl x), some (.inl y), some (.inl run), some (.inl ((n_ + (min (mi_shl 1 r38) ((((s43 3037) - x) - n_)))))), some (.inl mo), some (.inl (s16 3053)), some (.inl (mi_shl 1 r38)), some (.inl ((min (mi_shl 1 r38) ((((s43 3037) - x) - n_)))))], [], n, D, (us s43 3035 j178), p, c173) _
                refine tt_k 2 (S' := (136, [some (.inr (.inl 30)), some (.inl x), some (.inl y), some (.inl run), some (.inl ((n_ + (min (mi_shl 1 r38) ((((s43 3037) - x) - n_)))))), some (.inl mo), some (.inl (s16 3053)), some (.inl (mi_shl 1 r38)), some (.inl ((min (mi_shl 1 r38) ((((s43 3037) - x) - n_)))))], [.inl 1], n, D, (us s43 3035 j178), p, c173)) rfl ?_
                exact K184 1  (by omega) (Or.inr (⟨h187, rfl⟩))
            refine tb_ne (x := (min (mi_shl 1 r38) ((((s43 3037) - x) - n_)))) (y := (mi_shl 1 r38)) rfl rfl (by omega) (fun h188 => ?_) (fun h188 => ?_)
            · show tt Zi d 172 (113, [some (.inr (.inl 30)), some (.inl x), some (.inl y), some (.inl run), some (.inl ((n_ + (min (mi_shl 1 r38) ((((s43 3037) - x) - n_)))))), some (.inl mo), some (.inl (s16 3053)), some (.inl (mi_shl 1 r38)), some (.inl ((min (mi_shl 1 r38) ((((s43 3037) - x) - n_)))))], [.inr (.inl 30)], n, D, s43, p, c173) _
              refine tt_k 2 (S' := (117, [some (.inr (.inl 30)), some (.inl x), some (.inl y), some (.inl run), some (.inl ((n_ + (min (mi_shl 1 r38) ((((s43 3037) - x) - n_)))))), some (.inl mo), some (.inl (s16 3053)), some (.inl (mi_shl 1 r38)), some (.inl ((min (mi_shl 1 r38) ((((s43 3037) - x) - n_)))))], [.inl (s43 3035), .inr (.inl 30)], n, D, s43, p, c173)) rfl ?_
              exact K179 (s43 3035)  (by omega) (by omega) (trivial)
            · show tt Zi d 172 (99, [some (.inr (.inl 30)), some (.inl x), some (.inl y), some (.inl run), some (.inl ((n_ + (min (mi_shl 1 r38) ((((s43 3037) - x) - n_)))))), some (.inl mo), some (.inl (s16 3053)), some (.inl (mi_shl 1 r38)), some (.inl ((min (mi_shl 1 r38) ((((s43 3037) - x) - n_)))))], [.inr (.inl 30)], n, D, s43, p, c173) _
              refine tt_k 5 (S' := (107, [some (.inr (.inl 30)), some (.inl x), some (.inl y), some (.inl run), some (.inl ((n_ + (min (mi_shl 1 r38) ((((s43 3037) - x) - n_)))))), some (.inl mo), some (.inl (s16 3053)), some (.inl (mi_shl 1 r38)), some (.inl ((min (mi_shl 1 r38) ((((s43 3037) - x) - n_)))))], [.inl ((s43 3035) + 1), .inl 31, .inr (.inl 30)], n, D, s43, p, c173)) rfl ?_
              refine tt_cl (by omega) rfl (k_less (Zi := Zi) (D := D) (s := s43) (p := p) (c := c173) (by omega) hS43 hC173 31 ((s43 3035) + 1) (by omega) (by omega)) ?_
              rintro _ _ ⟨r189, rfl, rfl, b190, k191⟩
              show tt Zi d 172 (110, [some (.inr (.inl 30)), some (.inl x), some (.inl y), some (.inl run), some (.inl ((n_ + (min (mi_shl 1 r38) ((((s43 3037) - x) - n_)))))), some (.inl mo), some (.inl (s16 3053)), some (.inl (mi_shl 1 r38)), some (.inl ((min (mi_shl 1 r38) ((((s43 3037) - x) - n_)))))], [.inl r189, .inr (.inl 30)], n, D, s43, p, c173) _
              replace k191 : r189 = min 31 ((s43 3035) + 1) := k191
              subst k191
              show tt Zi d 172 (110, [some (.inr (.inl 30)), some (.inl x), some (.inl y), some (.inl run), some (.inl ((n_ + (min (mi_shl 1 r38) ((((s43 3037) - x) - n_)))))), some (.inl mo), some (.inl (s16 3053)), some (.inl (mi_shl 1 r38)), some (.inl ((min (mi_shl 1 r38) ((((s43 3037) - x) - n_)))))], [.inl ((min 31 ((s43 3035) + 1))), .inr (.inl 30)], n, D, s43, p, c173) _
              refine tt_k 1 (S' := (117, [some (.inr (.inl 30)), some (.inl x), some (.inl y), some (.inl run), some (.inl ((n_ + (min (mi_shl 1 r38) ((((s43 3037) - x) - n_)))))), some (.inl mo), some (.inl (s16 3053)), some (.inl (mi_shl 1 r38)), some (.inl ((min (mi_shl 1 r38) ((((s43 3037) - x) - n_)))))], [.inl ((min 31 ((s43 3035) + 1))), .inr (.inl 30)], n, D, s43, p, c173)) rfl ?_
              exact K179 ((min 31 ((s43 3035) + 1)))  (by omega) (by omega) (trivial)
set_option maxRecDepth 100000 in
set_option maxHeartbeats 4000000 in
theorem k_readRun {Zi : Nat → Option (Nat × (Nat → Int))} {d n : Nat} {D : Nat → Nat × Nat} {s : Nat → Int} {p : Nat → Nat} {c : Nat → Nat → Int} (hd : 6 ≤ d) (hS : bS s) (hC : bC D c) (t : Int) (x : Int) (y : Int) (b_x : 0 ≤ x ∧ x ≤ 63) (b_y : 0 ≤ y ∧ y ≤ 63) (hp0 : mv s) (hp1 : s 3036 = 0 ∧ s 3050 = 0 ∧ x < s 3037) (hp2 : s 3041 ≤ s 3017) (hp3 : pl s t c) (hp4 : tb (s 3037) (s 3039) (s 3017) (c 44) x y) (hp5 : 0 ≤ t ∧ t + s 3037 - x ≤ 4096) (hp6 : 0 ≤ s 3035 ∧ s 3035 ≤ 22) : tt Zi d 172 (0, [some (.inr (.inl 30)), some (.inl x), some (.inl y), none, none, none, none, none, none], [], n, D, s, p, c) (fun R H => ∃ (s' : Nat → Int) (c' : Nat → Nat → Int) (r : Int), R = .inl (some (.inl r)) ∧ H = (n, D, s', p, c') ∧ bS s' ∧ bC D c' ∧ fr s s' [3035, 3041, 3042, 3043, 3044, 3045, 3046, 3049, 3050, 3051, 3052, 3053, 3054] ∧ frc c c' [36, 37, 39, 44] ∧ (0 ≤ r ∧ r ≤ 64) ∧ (s' 3050 = 0 → pl s' (t + r) c') ∧ (s' 3050 = 0 → tb (s' 3037) (s' 3039) (s' 3017) (c' 44) (x + r) y) ∧ (s' 3050 = 0 → 1 ≤ r) ∧ (x + r ≤ s 3037) ∧ (s 3049 ≤ s' 3049) ∧ (s 3049 ≤ 32768 → s' 3049 ≤ 32768) ∧ (0 ≤ s' 3035 ∧ s' 3035 ≤ 22)) := by
  refine tt_k 7 (S' := (11, [some (.inr (.inl 30)), some (.inl x), some (.inl y), some (.inl (s 3041)), some (.inl 0), some (.inl 1), none, none, none], [], n, D, s, p, c)) rfl ?_
  have b1 : 0 ≤ (s 3041) ∧ (s 3041) ≤ 65535 := hS 3041
  have b2 : 0 ≤ (s 3036) ∧ (s 3036) ≤ 1 := hS 3036
  have b3 : 0 ≤ (s 3037) ∧ (s 3037) ≤ 64 := hS 3037
  have b4 : 0 ≤ (s 3017) ∧ (s 3017) ≤ 65535 := hS 3017
  refine k_readRun_L11 (Zi := Zi) (D := D) (s := s) (p := p) (c := c) hd hS hC t x y (s 3041) (by omega) (by omega) (by omega) hp0 (show (s 3036) = 0 ∧ x < (s 3037) by omega) (show (s 3041) ≤ (s 3017) by omega) (show 0 ≤ t ∧ t + (s 3037) - x ≤ 4096 by omega) ?_ _ 0 1 (none) (none) (none) s c (by omega) (by omega) hS fr_rf hC frc_rf (by rw [show t + 0 = t by omega]; exact fun _ => hp3) (by rw [show x + 0 = x by omega]; exact fun _ => hp4) (show x + 0 ≤ (s 3037) by omega) (show 1 = 1 → x + 0 < (s 3037) by omega) (show 1 = 1 ∨ 1 ≤ 0 ∨ ((s 3050)) ≠ 0 by omega) (Int.le_refl _) (fun h => h) hp6 (Nat.lt_succ_self _)
  intro x5 x6 x7 x8 x9 s10 c11 b12 b13 hS10 f14 hC11 g15 i16 i17 i18 i19 i20 i21 i22 i23 hx24
  show tt Zi d 172 (232, [some (.inr (.inl 30)), some (.inl x), some (.inl y), some (.inl (s 3041)), some (.inl x5), some (.inl x6), x7, x8, x9], [], n, D, s10, p, c11) _
  replace i17 : (s10 3050) = 0 → tb ((s10 3037)) ((s10 3039)) ((s10 3017)) ((c11 44)) (x + x5) y := i17
  replace i18 : x + x5 ≤ (s 3037) := i18
  replace i19 : x6 = 1 → x + x5 < (s 3037) := i19
  replace i20 : x6 = 1 ∨ 1 ≤ x5 ∨ (s10 3050) ≠ 0 := i20
  replace i21 : (s 3049) ≤ (s10 3049) := i21
  replace i22 : (s 3049) ≤ 32768 → (s10 3049) ≤ 32768 := i22
  replace i23 : 0 ≤ (s10 3035) ∧ (s10 3035) ≤ 22 := i23
  replace hx24 : x6 = 0 ∨ (s10 3050) ≠ 0 := hx24
  have hc25 : mv s10 := mv_fr f14 (by decide) hp0
  have e26 : s10 3039 = (s 3039) := (f14 3039 (by decide))
  have b27 : 0 ≤ (s10 3039) ∧ (s10 3039) ≤ 8192 := hS10 3039
  have b28 : 0 ≤ (s 3039) ∧ (s 3039) ≤ 8192 := hS 3039
  have e29 : s10 3017 = (s 3017) := (f14 3017 (by decide))
  have b30 : 0 ≤ (s10 3017) ∧ (s10 3017) ≤ 65535 := hS10 3017
  have e31 : s10 3037 = (s 3037) := (f14 3037 (by decide))
  have b32 : 0 ≤ (s10 3037) ∧ (s10 3037) ≤ 64 := hS10 3037
  have e33 : s10 3036 = (s 3036) := (f14 3036 (by decide))
  have b34 : 0 ≤ (s10 3036) ∧ (s10 3036) ≤ 1 := hS10 3036
  refine tt_k 1 (S' := (234, [some (.inr (.inl 30)), some (.inl x), some (.inl y), some (.inl (s 3041)), some (.inl x5), some (.inl x6), x7, x8, x9], [.inl x5], n, D, s10, p, c11)) rfl ?_
  exact tt_rti rfl rfl ⟨s10, c11, x5, rfl, rfl, hS10, hC11, (fr_tr fr_rf f14 (by decide)), (frc_tr frc_rf g15 (by decide)), by omega, i16, i17, by show (s10 3050) = 0 → 1 ≤ x5; omega, by show x + x5 ≤ s 3037; omega, i21, i22, i23⟩
