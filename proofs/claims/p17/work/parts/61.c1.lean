/-! the class's pictures and measures -/
theorem ix_bd {a h y w x pl : Int} (a0 : 0 ≤ a) (a1 : a < pl) (y0 : 0 ≤ y) (y1 : y < h) (x0 : 0 ≤ x) (x1 : x < w) (w1 : w ≤ 64) (h1 : h ≤ 64) (p1 : pl ≤ 3) : (0 ≤ (a * h + y) * w + x ∧ (a * h + y) * w + x + w - x ≤ w * h * pl) ∧ (w * h * pl ≤ 12288 ∧ 0 ≤ a * h ∧ a * h ≤ 192 ∧ 0 ≤ (a * h + y) * w ∧ (a * h + y) * w ≤ 16384) := by
  have b1 : (a + 1) * h ≤ pl * h := Int.mul_le_mul_of_nonneg_right (by omega) (by omega)
  have b2 : (a + 1) * h = a * h + h := by rw [Int.add_mul, Int.one_mul]
  have b0 : 0 ≤ a * h := Int.mul_nonneg a0 (by omega)
  have b6 : pl * h ≤ 3 * h := Int.mul_le_mul_of_nonneg_right (by omega) (by omega)
  have b3 : (a * h + y + 1) * w ≤ pl * h * w := Int.mul_le_mul_of_nonneg_right (by omega) (by omega)
  have b4 : (a * h + y + 1) * w = (a * h + y) * w + w := by rw [Int.add_mul (a * h + y) 1 w, Int.one_mul]
  have b5 : 0 ≤ (a * h + y) * w := Int.mul_nonneg (by omega) (by omega)
  have b7 : pl * h * w = w * h * pl := by rw [Int.mul_comm (pl * h) w, Int.mul_comm pl h, Int.mul_assoc]
  have b8 : pl * h * w ≤ 192 * w := Int.mul_le_mul_of_nonneg_right (by omega) (by omega)
  refine ⟨⟨by omega, by omega⟩, by omega, b0, by omega, b5, by omega⟩
theorem pw_16b {k v : Int} (hk : 0 ≤ k) (h : k = 0 ∨ 2 ^ (k - 1).toNat < v) (hv : v ≤ 65536) : k ≤ 16 := by
  rcases h with h | h
  · omega
  · have h1 := pw_lt (a := k - 1) (b := 16) (x := v)
    by_cases h0 : 0 ≤ k - 1
    · have h2 := h1 h0 (by decide) h (by have e : (2 : Int) ^ (16 : Int).toNat = 65536 := by decide
                                         omega)
      omega
    · omega
theorem rg_le {most near : Int} (hm : 0 ≤ most) (hn : 0 ≤ near) : (most + 2 * near) / (2 * near + 1) ≤ most := by
  have h1 : (most + 2 * near) / (2 * near + 1) < most + 1 := by
    apply Int.ediv_lt_of_lt_mul (by omega)
    have h2 : (most + 1) * (2 * near + 1) = (most + 1) * (2 * near) + (most + 1) := by rw [Int.mul_add, Int.mul_one]
    have h3 : 1 * (2 * near) ≤ (most + 1) * (2 * near) := Int.mul_le_mul_of_nonneg_right (by omega) (by omega)
    rw [h2]
    omega
  omega
set_option maxRecDepth 100000 in
set_option maxHeartbeats 4000000 in
theorem g_isSide {g : Nat → Int} {Zi : Nat → Option (Nat × (Nat → Int))} {d n q : Nat} {D : Nat → Nat × Nat} {s : Nat → Int} {p : Nat → Nat} {c : Nat → Nat → Int} (hd : 0 ≤ d) (hz : zk Zi) (hq : q + 0 ≤ 400000) (hD : wd n p) (hS : bS s) (hC : bC D c) (hW : wp q g n D p s) (v : Int) (b_v : -2147483648 ≤ v ∧ v ≤ 2147483647) : tt Zi d 83 (0, [some (.inl v)], [], n, D, s, p, c) (fun R H => ∃ (r : Int), R = .inl (some (.inl r)) ∧ H = (n, D, s, p, c) ∧ (0 ≤ r ∧ r ≤ 1) ∧ (r = 1 ↔ (1 ≤ v ∧ v ≤ 64))) := by
  refine tt_k 2 (S' := (2, [some (.inl v)], [.inl 1, .inl v], n, D, s, p, c)) rfl ?_
  refine tb_lt (x := v) (y := 1) rfl rfl (by omega) (fun h1 => ?_) (fun h1 => ?_)
  · show tt Zi d 83 (15, [some (.inl v)], [], n, D, s, p, c) _
    refine tt_k 1 (S' := (16, [some (.inl v)], [.inl 0], n, D, s, p, c)) rfl ?_
    exact tt_rtb rfl rfl (by omega) ⟨0, rfl, rfl, by omega, by show 0 = 1 ↔ (1 ≤ v ∧ v ≤ 64); omega⟩
  · show tt Zi d 83 (5, [some (.inl v)], [], n, D, s, p, c) _
    refine tt_k 2 (S' := (8, [some (.inl v)], [.inl 64, .inl v], n, D, s, p, c)) rfl ?_
    refine tb_gt (x := v) (y := 64) rfl rfl (by omega) (fun h2 => ?_) (fun h2 => ?_)
    · show tt Zi d 83 (15, [some (.inl v)], [], n, D, s, p, c) _
      refine tt_k 1 (S' := (16, [some (.inl v)], [.inl 0], n, D, s, p, c)) rfl ?_
      exact tt_rtb rfl rfl (by omega) ⟨0, rfl, rfl, by omega, by show 0 = 1 ↔ (1 ≤ v ∧ v ≤ 64); omega⟩
    · show tt Zi d 83 (11, [some (.inl v)], [], n, D, s, p, c) _
      refine tt_k 2 (S' := (16, [some (.inl v)], [.inl 1], n, D, s, p, c)) rfl ?_
      exact tt_rtb rfl rfl (by omega) ⟨1, rfl, rfl, by omega, by show 1 = 1 ↔ (1 ≤ v ∧ v ≤ 64); omega⟩
set_option maxRecDepth 100000 in
set_option maxHeartbeats 4000000 in
theorem g_isDepth {g : Nat → Int} {Zi : Nat → Option (Nat × (Nat → Int))} {d n q : Nat} {D : Nat → Nat × Nat} {s : Nat → Int} {p : Nat → Nat} {c : Nat → Nat → Int} (hd : 0 ≤ d) (hz : zk Zi) (hq : q + 0 ≤ 400000) (hD : wd n p) (hS : bS s) (hC : bC D c) (hW : wp q g n D p s) (v : Int) (b_v : -2147483648 ≤ v ∧ v ≤ 2147483647) : tt Zi d 81 (0, [some (.inl v)], [], n, D, s, p, c) (fun R H => ∃ (r : Int), R = .inl (some (.inl r)) ∧ H = (n, D, s, p, c) ∧ (0 ≤ r ∧ r ≤ 1) ∧ (r = 1 ↔ (2 ≤ v ∧ v ≤ 16))) := by
  refine tt_k 2 (S' := (2, [some (.inl v)], [.inl 2, .inl v], n, D, s, p, c)) rfl ?_
  refine tb_lt (x := v) (y := 2) rfl rfl (by omega) (fun h1 => ?_) (fun h1 => ?_)
  · show tt Zi d 81 (15, [some (.inl v)], [], n, D, s, p, c) _
    refine tt_k 1 (S' := (16, [some (.inl v)], [.inl 0], n, D, s, p, c)) rfl ?_
    exact tt_rtb rfl rfl (by omega) ⟨0, rfl, rfl, by omega, by show 0 = 1 ↔ (2 ≤ v ∧ v ≤ 16); omega⟩
  · show tt Zi d 81 (5, [some (.inl v)], [], n, D, s, p, c) _
    refine tt_k 2 (S' := (8, [some (.inl v)], [.inl 16, .inl v], n, D, s, p, c)) rfl ?_
    refine tb_gt (x := v) (y := 16) rfl rfl (by omega) (fun h2 => ?_) (fun h2 => ?_)
    · show tt Zi d 81 (15, [some (.inl v)], [], n, D, s, p, c) _
      refine tt_k 1 (S' := (16, [some (.inl v)], [.inl 0], n, D, s, p, c)) rfl ?_
      exact tt_rtb rfl rfl (by omega) ⟨0, rfl, rfl, by omega, by show 0 = 1 ↔ (2 ≤ v ∧ v ≤ 16); omega⟩
    · show tt Zi d 81 (11, [some (.inl v)], [], n, D, s, p, c) _
      refine tt_k 2 (S' := (16, [some (.inl v)], [.inl 1], n, D, s, p, c)) rfl ?_
      exact tt_rtb rfl rfl (by omega) ⟨1, rfl, rfl, by omega, by show 1 = 1 ↔ (2 ≤ v ∧ v ≤ 16); omega⟩
set_option maxRecDepth 100000 in
set_option maxHeartbeats 4000000 in
theorem g_isPC {g : Nat → Int} {Zi : Nat → Option (Nat × (Nat → Int))} {d n q : Nat} {D : Nat → Nat × Nat} {s : Nat → Int} {p : Nat → Nat} {c : Nat → Nat → Int} (hd : 0 ≤ d) (hz : zk Zi) (hq : q + 0 ≤ 400000) (hD : wd n p) (hS : bS s) (hC : bC D c) (hW : wp q g n D p s) (v : Int) (b_v : -2147483648 ≤ v ∧ v ≤ 2147483647) : tt Zi d 84 (0, [some (.inl v)], [], n, D, s, p, c) (fun R H => ∃ (r : Int), R = .inl (some (.inl r)) ∧ H = (n, D, s, p, c) ∧ (0 ≤ r ∧ r ≤ 1) ∧ (r = 1 ↔ (v = 1 ∨ v = 3))) := by
  refine tt_k 2 (S' := (2, [some (.inl v)], [.inl 1, .inl v], n, D, s, p, c)) rfl ?_
  refine tb_eq (x := v) (y := 1) rfl rfl (by omega) (fun h1 => ?_) (fun h1 => ?_)
  · show tt Zi d 84 (10, [some (.inl v)], [], n, D, s, p, c) _
    refine tt_k 2 (S' := (15, [some (.inl v)], [.inl 1], n, D, s, p, c)) rfl ?_
    exact tt_rtb rfl rfl (by omega) ⟨1, rfl, rfl, by omega, by show 1 = 1 ↔ (v = 1 ∨ v = 3); omega⟩
  · show tt Zi d 84 (5, [some (.inl v)], [], n, D, s, p, c) _
    refine tt_k 2 (S' := (7, [some (.inl v)], [.inl 3, .inl v], n, D, s, p, c)) rfl ?_
    refine tb_ne (x := v) (y := 3) rfl rfl (by omega) (fun h2 => ?_) (fun h2 => ?_)
    · show tt Zi d 84 (14, [some (.inl v)], [], n, D, s, p, c) _
      refine tt_k 1 (S' := (15, [some (.inl v)], [.inl 0], n, D, s, p, c)) rfl ?_
      exact tt_rtb rfl rfl (by omega) ⟨0, rfl, rfl, by omega, by show 0 = 1 ↔ (v = 1 ∨ v = 3); omega⟩
    · show tt Zi d 84 (10, [some (.inl v)], [], n, D, s, p, c) _
      refine tt_k 2 (S' := (15, [some (.inl v)], [.inl 1], n, D, s, p, c)) rfl ?_
      exact tt_rtb rfl rfl (by omega) ⟨1, rfl, rfl, by omega, by show 1 = 1 ↔ (v = 1 ∨ v = 3); omega⟩
set_option maxRecDepth 100000 in
set_option maxHeartbeats 4000000 in
theorem g_isNumber {g : Nat → Int} {Zi : Nat → Option (Nat × (Nat → Int))} {d n q : Nat} {D : Nat → Nat × Nat} {s : Nat → Int} {p : Nat → Nat} {c : Nat → Nat → Int} (hd : 0 ≤ d) (hz : zk Zi) (hq : q + 0 ≤ 400000) (hD : wd n p) (hS : bS s) (hC : bC D c) (hW : wp q g n D p s) (v : Int) (b_v : -2147483648 ≤ v ∧ v ≤ 2147483647) : tt Zi d 104 (0, [some (.inl v)], [], n, D, s, p, c) (fun R H => ∃ (r : Int), R = .inl (some (.inl r)) ∧ H = (n, D, s, p, c) ∧ (0 ≤ r ∧ r ≤ 1) ∧ (r = 1 ↔ (0 ≤ v ∧ v ≤ 65535))) := by
  refine tt_k 1 (S' := (1, [some (.inl v)], [.inl v], n, D, s, p, c)) rfl ?_
  refine tz_lt (x := v) rfl rfl (by omega) (fun h1 => ?_) (fun h1 => ?_)
  · show tt Zi d 104 (14, [some (.inl v)], [], n, D, s, p, c) _
    refine tt_k 1 (S' := (15, [some (.inl v)], [.inl 0], n, D, s, p, c)) rfl ?_
    exact tt_rtb rfl rfl (by omega) ⟨0, rfl, rfl, by omega, by show 0 = 1 ↔ (0 ≤ v ∧ v ≤ 65535); omega⟩
  · show tt Zi d 104 (4, [some (.inl v)], [], n, D, s, p, c) _
    refine tt_k 2 (S' := (7, [some (.inl v)], [.inl 65535, .inl v], n, D, s, p, c)) rfl ?_
    refine tb_gt (x := v) (y := 65535) rfl rfl (by omega) (fun h2 => ?_) (fun h2 => ?_)
    · show tt Zi d 104 (14, [some (.inl v)], [], n, D, s, p, c) _
      refine tt_k 1 (S' := (15, [some (.inl v)], [.inl 0], n, D, s, p, c)) rfl ?_
      exact tt_rtb rfl rfl (by omega) ⟨0, rfl, rfl, by omega, by show 0 = 1 ↔ (0 ≤ v ∧ v ≤ 65535); omega⟩
    · show tt Zi d 104 (10, [some (.inl v)], [], n, D, s, p, c) _
      refine tt_k 2 (S' := (15, [some (.inl v)], [.inl 1], n, D, s, p, c)) rfl ?_
      exact tt_rtb rfl rfl (by omega) ⟨1, rfl, rfl, by omega, by show 1 = 1 ↔ (0 ≤ v ∧ v ≤ 65535); omega⟩
set_option maxRecDepth 100000 in
set_option maxHeartbeats 4000000 in
theorem g_frameLength {g : Nat → Int} {Zi : Nat → Option (Nat × (Nat → Int))} {d n q : Nat} {D : Nat → Nat × Nat} {s : Nat → Int} {p : Nat → Nat} {c : Nat → Nat → Int} (hd : 0 ≤ d) (hz : zk Zi) (hq : q + 0 ≤ 400000) (hD : wd n p) (hS : bS s) (hC : bC D c) (hW : wp q g n D p s) (v : Int) (b_v : 0 ≤ v ∧ v ≤ 255) : tt Zi d 85 (0, [some (.inl v)], [], n, D, s, p, c) (fun R H => ∃ (r : Int), R = .inl (some (.inl r)) ∧ H = (n, D, s, p, c) ∧ (8 ≤ r ∧ r ≤ 773) ∧ (r = 8 + 3 * v)) := by
  refine tt_k 5 (S' := (6, [some (.inl v)], [.inl (8 + (3 * v))], n, D, s, p, c)) rfl ?_
  exact tt_rti rfl rfl ⟨(8 + (3 * v)), rfl, rfl, by omega, by show (8 + (3 * v)) = 8 + 3 * v; omega⟩
set_option maxRecDepth 100000 in
set_option maxHeartbeats 4000000 in
theorem g_noise {g : Nat → Int} {Zi : Nat → Option (Nat × (Nat → Int))} {d n q : Nat} {D : Nat → Nat × Nat} {s : Nat → Int} {p : Nat → Nat} {c : Nat → Nat → Int} (hd : 0 ≤ d) (hz : zk Zi) (hq : q + 0 ≤ 400000) (hD : wd n p) (hS : bS s) (hC : bC D c) (hW : wp q g n D p s) (v : Int) (b_v : 0 ≤ v ∧ v ≤ 5000) : tt Zi d 99 (0, [some (.inl v), none], [], n, D, s, p, c) (fun R H => ∃ (r : Int), R = .inl (some (.inl r)) ∧ H = (n, D, s, p, c) ∧ (-2147483648 ≤ r ∧ r ≤ 2147483647) ∧ (r = mi_ushr ((v * 40503 + 12345) * (v * 40503 + 12345)) 7)) := by
  refine tt_k 11 (S' := (15, [some (.inl v), some (.inl ((v * 40503) + 12345))], [.inl ((mi_ushr (((v * 40503) + 12345) * ((v * 40503) + 12345)) 7))], n, D, s, p, c)) rfl ?_
  have m1 := mul_bd (e := ((v * 40503) + 12345)) (st := ((v * 40503) + 12345)) (a := 202527345) (b := 202527345) (by omega) (by omega) (by omega) (by omega) (by omega)
  have e2 := mi_ushr_bd ((((v * 40503) + 12345) * ((v * 40503) + 12345))) 7
  exact tt_rti rfl rfl ⟨(mi_ushr (((v * 40503) + 12345) * ((v * 40503) + 12345)) 7), rfl, rfl, by omega, rfl⟩
set_option maxRecDepth 100000 in
set_option maxHeartbeats 4000000 in
theorem g_has1 {g : Nat → Int} {Zi : Nat → Option (Nat × (Nat → Int))} {d n q : Nat} {D : Nat → Nat × Nat} {s : Nat → Int} {p : Nat → Nat} {c : Nat → Nat → Int} (hd : 0 ≤ d) (hz : zk Zi) (hq : q + 0 ≤ 400000) (hD : wd n p) (hS : bS s) (hC : bC D c) (hW : wp q g n D p s) (a_ : Int) (x : Int) (y : Int) (b_a_ : -2147483648 ≤ a_ ∧ a_ ≤ 2147483647) (b_x : -2147483648 ≤ x ∧ x ≤ 2147483647) (b_y : -2147483648 ≤ y ∧ y ≤ 2147483647) : tt Zi d 96 (0, [some (.inr (.inl 1)), some (.inl a_), some (.inl x), some (.inl y)], [], n, D, s, p, c) (fun R H => ∃ (r : Int), R = .inl (some (.inl r)) ∧ H = (n, D, s, p, c) ∧ (0 ≤ r ∧ r ≤ 1) ∧ (r = 1 ↔ ((0 ≤ a_ ∧ a_ < s 102) ∧ (0 ≤ x ∧ x < s 100) ∧ (0 ≤ y ∧ y < s 101)))) := by
  refine tt_k 1 (S' := (1, [some (.inr (.inl 1)), some (.inl a_), some (.inl x), some (.inl y)], [.inl a_], n, D, s, p, c)) rfl ?_
  refine tz_lt (x := a_) rfl rfl (by omega) (fun h1 => ?_) (fun h1 => ?_)
  · show tt Zi d 96 (40, [some (.inr (.inl 1)), some (.inl a_), some (.inl x), some (.inl y)], [], n, D, s, p, c) _
    refine tt_k 1 (S' := (41, [some (.inr (.inl 1)), some (.inl a_), some (.inl x), some (.inl y)], [.inl 0], n, D, s, p, c)) rfl ?_
    exact tt_rtb rfl rfl (by omega) ⟨0, rfl, rfl, by omega, by show 0 = 1 ↔ ((0 ≤ a_ ∧ a_ < s 102) ∧ (0 ≤ x ∧ x < s 100) ∧ (0 ≤ y ∧ y < s 101)); omega⟩
  · show tt Zi d 96 (4, [some (.inr (.inl 1)), some (.inl a_), some (.inl x), some (.inl y)], [], n, D, s, p, c) _
    refine tt_k 3 (S' := (9, [some (.inr (.inl 1)), some (.inl a_), some (.inl x), some (.inl y)], [.inl (s 102), .inl a_], n, D, s, p, c)) rfl ?_
    have b2 : 1 ≤ (s 102) ∧ (s 102) ≤ 3 := hS 102
    refine tb_ge (x := a_) (y := (s 102)) rfl rfl (by omega) (fun h3 => ?_) (fun h3 => ?_)
    · show tt Zi d 96 (40, [some (.inr (.inl 1)), some (.inl a_), some (.inl x), some (.inl y)], [], n, D, s, p, c) _
      refine tt_k 1 (S' := (41, [some (.inr (.inl 1)), some (.inl a_), some (.inl x), some (.inl y)], [.inl 0], n, D, s, p, c)) rfl ?_
      exact tt_rtb rfl rfl (by omega) ⟨0, rfl, rfl, by omega, by show 0 = 1 ↔ ((0 ≤ a_ ∧ a_ < s 102) ∧ (0 ≤ x ∧ x < s 100) ∧ (0 ≤ y ∧ y < s 101)); omega⟩
    · show tt Zi d 96 (12, [some (.inr (.inl 1)), some (.inl a_), some (.inl x), some (.inl y)], [], n, D, s, p, c) _
      refine tt_k 1 (S' := (13, [some (.inr (.inl 1)), some (.inl a_), some (.inl x), some (.inl y)], [.inl x], n, D, s, p, c)) rfl ?_
      refine tz_lt (x := x) rfl rfl (by omega) (fun h4 => ?_) (fun h4 => ?_)
      · show tt Zi d 96 (40, [some (.inr (.inl 1)), some (.inl a_), some (.inl x), some (.inl y)], [], n, D, s, p, c) _
        refine tt_k 1 (S' := (41, [some (.inr (.inl 1)), some (.inl a_), some (.inl x), some (.inl y)], [.inl 0], n, D, s, p, c)) rfl ?_
        exact tt_rtb rfl rfl (by omega) ⟨0, rfl, rfl, by omega, by show 0 = 1 ↔ ((0 ≤ a_ ∧ a_ < s 102) ∧ (0 ≤ x ∧ x < s 100) ∧ (0 ≤ y ∧ y < s 101)); omega⟩
      · show tt Zi d 96 (16, [some (.inr (.inl 1)), some (.inl a_), some (.inl x), some (.inl y)], [], n, D, s, p, c) _
        refine tt_k 3 (S' := (21, [some (.inr (.inl 1)), some (.inl a_), some (.inl x), some (.inl y)], [.inl (s 100), .inl x], n, D, s, p, c)) rfl ?_
        have b5 : 1 ≤ (s 100) ∧ (s 100) ≤ 64 := hS 100
        refine tb_ge (x := x) (y := (s 100)) rfl rfl (by omega) (fun h6 => ?_) (fun h6 => ?_)
        · show tt Zi d 96 (40, [some (.inr (.inl 1)), some (.inl a_), some (.inl x), some (.inl y)], [], n, D, s, p, c) _
          refine tt_k 1 (S' := (41, [some (.inr (.inl 1)), some (.inl a_), some (.inl x), some (.inl y)], [.inl 0], n, D, s, p, c)) rfl ?_
          exact tt_rtb rfl rfl (by omega) ⟨0, rfl, rfl, by omega, by show 0 = 1 ↔ ((0 ≤ a_ ∧ a_ < s 102) ∧ (0 ≤ x ∧ x < s 100) ∧ (0 ≤ y ∧ y < s 101)); omega⟩
        · show tt Zi d 96 (24, [some (.inr (.inl 1)), some (.inl a_), some (.inl x), some (.inl y)], [], n, D, s, p, c) _
          refine tt_k 1 (S' := (25, [some (.inr (.inl 1)), some (.inl a_), some (.inl x), some (.inl y)], [.inl y], n, D, s, p, c)) rfl ?_
          refine tz_lt (x := y) rfl rfl (by omega) (fun h7 => ?_) (fun h7 => ?_)
          · show tt Zi d 96 (40, [some (.inr (.inl 1)), some (.inl a_), some (.inl x), some (.inl y)], [], n, D, s, p, c) _
            refine tt_k 1 (S' := (41, [some (.inr (.inl 1)), some (.inl a_), some (.inl x), some (.inl y)], [.inl 0], n, D, s, p, c)) rfl ?_
            exact tt_rtb rfl rfl (by omega) ⟨0, rfl, rfl, by omega, by show 0 = 1 ↔ ((0 ≤ a_ ∧ a_ < s 102) ∧ (0 ≤ x ∧ x < s 100) ∧ (0 ≤ y ∧ y < s 101)); omega⟩
          · show tt Zi d 96 (28, [some (.inr (.inl 1)), some (.inl a_), some (.inl x), some (.inl y)], [], n, D, s, p, c) _
            refine tt_k 3 (S' := (33, [some (.inr (.inl 1)), some (.inl a_), some (.inl x), some (.inl y)], [.inl (s 101), .inl y], n, D, s, p, c)) rfl ?_
            have b8 : 1 ≤ (s 101) ∧ (s 101) ≤ 64 := hS 101
            refine tb_ge (x := y) (y := (s 101)) rfl rfl (by omega) (fun h9 => ?_) (fun h9 => ?_)
            · show tt Zi d 96 (40, [some (.inr (.inl 1)), some (.inl a_), some (.inl x), some (.inl y)], [], n, D, s, p, c) _
              refine tt_k 1 (S' := (41, [some (.inr (.inl 1)), some (.inl a_), some (.inl x), some (.inl y)], [.inl 0], n, D, s, p, c)) rfl ?_
              exact tt_rtb rfl rfl (by omega) ⟨0, rfl, rfl, by omega, by show 0 = 1 ↔ ((0 ≤ a_ ∧ a_ < s 102) ∧ (0 ≤ x ∧ x < s 100) ∧ (0 ≤ y ∧ y < s 101)); omega⟩
            · show tt Zi d 96 (36, [some (.inr (.inl 1)), some (.inl a_), some (.inl x), some (.inl y)], [], n, D, s, p, c) _
              refine tt_k 2 (S' := (41, [some (.inr (.inl 1)), some (.inl a_), some (.inl x), some (.inl y)], [.inl 1], n, D, s, p, c)) rfl ?_
              exact tt_rtb rfl rfl (by omega) ⟨1, rfl, rfl, by omega, by show 1 = 1 ↔ ((0 ≤ a_ ∧ a_ < s 102) ∧ (0 ≤ x ∧ x < s 100) ∧ (0 ≤ y ∧ y < s 101)); omega⟩
set_option maxRecDepth 100000 in
set_option maxHeartbeats 4000000 in
theorem g_hasRoom1 {g : Nat → Int} {Zi : Nat → Option (Nat × (Nat → Int))} {d n q : Nat} {D : Nat → Nat × Nat} {s : Nat → Int} {p : Nat → Nat} {c : Nat → Nat → Int} (hd : 0 ≤ d) (hz : zk Zi) (hq : q + 0 ≤ 400000) (hD : wd n p) (hS : bS s) (hC : bC D c) (hW : wp q g n D p s) (x : Int) (y : Int) (wide : Int) (high : Int) (b_x : 0 ≤ x ∧ x ≤ 64) (b_y : 0 ≤ y ∧ y ≤ 64) (b_wide : -2147483648 ≤ wide ∧ wide ≤ 2147483647) (b_high : -2147483648 ≤ high ∧ high ≤ 2147483647) : tt Zi d 97 (0, [some (.inr (.inl 1)), some (.inl x), some (.inl y), some (.inl wide), some (.inl high)], [], n, D, s, p, c) (fun R H => ∃ (r : Int), R = .inl (some (.inl r)) ∧ H = (n, D, s, p, c) ∧ (0 ≤ r ∧ r ≤ 1) ∧ (r = 1 ↔ ((1 ≤ wide ∧ wide ≤ s 100 - x) ∧ (1 ≤ high ∧ high ≤ s 101 - y)))) := by
  refine tt_k 2 (S' := (2, [some (.inr (.inl 1)), some (.inl x), some (.inl y), some (.inl wide), some (.inl high)], [.inl 1, .inl wide], n, D, s, p, c)) rfl ?_
  refine tb_lt (x := wide) (y := 1) rfl rfl (by omega) (fun h1 => ?_) (fun h1 => ?_)
  · show tt Zi d 97 (36, [some (.inr (.inl 1)), some (.inl x), some (.inl y), some (.inl wide), some (.inl high)], [], n, D, s, p, c) _
    refine tt_k 1 (S' := (37, [some (.inr (.inl 1)), some (.inl x), some (.inl y), some (.inl wide), some (.inl high)], [.inl 0], n, D, s, p, c)) rfl ?_
    exact tt_rtb rfl rfl (by omega) ⟨0, rfl, rfl, by omega, by show 0 = 1 ↔ ((1 ≤ wide ∧ wide ≤ s 100 - x) ∧ (1 ≤ high ∧ high ≤ s 101 - y)); omega⟩
  · show tt Zi d 97 (5, [some (.inr (.inl 1)), some (.inl x), some (.inl y), some (.inl wide), some (.inl high)], [], n, D, s, p, c) _
    refine tt_k 5 (S' := (12, [some (.inr (.inl 1)), some (.inl x), some (.inl y), some (.inl wide), some (.inl high)], [.inl ((s 100) - x), .inl wide], n, D, s, p, c)) rfl ?_
    have b2 : 1 ≤ (s 100) ∧ (s 100) ≤ 64 := hS 100
    refine tb_gt (x := wide) (y := ((s 100) - x)) rfl rfl (by omega) (fun h3 => ?_) (fun h3 => ?_)
    · show tt Zi d 97 (36, [some (.inr (.inl 1)), some (.inl x), some (.inl y), some (.inl wide), some (.inl high)], [], n, D, s, p, c) _
      refine tt_k 1 (S' := (37, [some (.inr (.inl 1)), some (.inl x), some (.inl y), some (.inl wide), some (.inl high)], [.inl 0], n, D, s, p, c)) rfl ?_
      exact tt_rtb rfl rfl (by omega) ⟨0, rfl, rfl, by omega, by show 0 = 1 ↔ ((1 ≤ wide ∧ wide ≤ s 100 - x) ∧ (1 ≤ high ∧ high ≤ s 101 - y)); omega⟩
    · show tt Zi d 97 (15, [some (.inr (.inl 1)), some (.inl x), some (.inl y), some (.inl wide), some (.inl high)], [], n, D, s, p, c) _
      refine tt_k 2 (S' := (18, [some (.inr (.inl 1)), some (.inl x), some (.inl y), some (.inl wide), some (.inl high)], [.inl 1, .inl high], n, D, s, p, c)) rfl ?_
      refine tb_lt (x := high) (y := 1) rfl rfl (by omega) (fun h4 => ?_) (fun h4 => ?_)
      · show tt Zi d 97 (36, [some (.inr (.inl 1)), some (.inl x), some (.inl y), some (.inl wide), some (.inl high)], [], n, D, s, p, c) _
        refine tt_k 1 (S' := (37, [some (.inr (.inl 1)), some (.inl x), some (.inl y), some (.inl wide), some (.inl high)], [.inl 0], n, D, s, p, c)) rfl ?_
        exact tt_rtb rfl rfl (by omega) ⟨0, rfl, rfl, by omega, by show 0 = 1 ↔ ((1 ≤ wide ∧ wide ≤ s 100 - x) ∧ (1 ≤ high ∧ high ≤ s 101 - y)); omega⟩
      · show tt Zi d 97 (21, [some (.inr (.inl 1)), some (.inl x), some (.inl y), some (.inl wide), some (.inl high)], [], n, D, s, p, c) _
        refine tt_k 5 (S' := (29, [some (.inr (.inl 1)), some (.inl x), some (.inl y), some (.inl wide), some (.inl high)], [.inl ((s 101) - y), .inl high], n, D, s, p, c)) rfl ?_
        have b5 : 1 ≤ (s 101) ∧ (s 101) ≤ 64 := hS 101
        refine tb_gt (x := high) (y := ((s 101) - y)) rfl rfl (by omega) (fun h6 => ?_) (fun h6 => ?_)
        · show tt Zi d 97 (36, [some (.inr (.inl 1)), some (.inl x), some (.inl y), some (.inl wide), some (.inl high)], [], n, D, s, p, c) _
          refine tt_k 1 (S' := (37, [some (.inr (.inl 1)), some (.inl x), some (.inl y), some (.inl wide), some (.inl high)], [.inl 0], n, D, s, p, c)) rfl ?_
          exact tt_rtb rfl rfl (by omega) ⟨0, rfl, rfl, by omega, by show 0 = 1 ↔ ((1 ≤ wide ∧ wide ≤ s 100 - x) ∧ (1 ≤ high ∧ high ≤ s 101 - y)); omega⟩
        · show tt Zi d 97 (32, [some (.inr (.inl 1)), some (.inl x), some (.inl y), some (.inl wide), some (.inl high)], [], n, D, s, p, c) _
          refine tt_k 2 (S' := (37, [some (.inr (.inl 1)), some (.inl x), some (.inl y), some (.inl wide), some (.inl high)], [.inl 1], n, D, s, p, c)) rfl ?_
          exact tt_rtb rfl rfl (by omega) ⟨1, rfl, rfl, by omega, by show 1 = 1 ↔ ((1 ≤ wide ∧ wide ≤ s 100 - x) ∧ (1 ≤ high ∧ high ≤ s 101 - y)); omega⟩
set_option maxRecDepth 100000 in
set_option maxHeartbeats 4000000 in
theorem g_index1 {g : Nat → Int} {Zi : Nat → Option (Nat × (Nat → Int))} {d n q : Nat} {D : Nat → Nat × Nat} {s : Nat → Int} {p : Nat → Nat} {c : Nat → Nat → Int} (hd : 0 ≤ d) (hz : zk Zi) (hq : q + 0 ≤ 400000) (hD : wd n p) (hS : bS s) (hC : bC D c) (hW : wp q g n D p s) (a_ : Int) (x : Int) (y : Int) (b_a_ : 0 ≤ a_ ∧ a_ ≤ 2) (b_x : 0 ≤ x ∧ x ≤ 63) (b_y : 0 ≤ y ∧ y ≤ 63) (hp0 : a_ < s 102 ∧ x < s 100 ∧ y < s 101) : tt Zi d 34 (0, [some (.inr (.inl 1)), some (.inl a_), some (.inl x), some (.inl y)], [], n, D, s, p, c) (fun R H => ∃ (r : Int), R = .inl (some (.inl r)) ∧ H = (n, D, s, p, c) ∧ (0 ≤ r ∧ r ≤ 12287) ∧ (r = (a_ * s 101 + y) * s 100 + x) ∧ (r + s 100 - x ≤ s 100 * s 101 * s 102)) := by
  have b1 : 1 ≤ (s 100) ∧ (s 100) ≤ 64 := hS 100
  have b2 : 1 ≤ (s 101) ∧ (s 101) ≤ 64 := hS 101
  have b3 : 1 ≤ (s 102) ∧ (s 102) ≤ 3 := hS 102
  have hix := ix_bd (a := a_) (h := s 101) (y := y) (w := s 100) (x := x) (pl := s 102) (by omega) (by omega) (by omega) (by omega) (by omega) (by omega) (by omega) (by omega) (by omega)
  refine tt_k 11 (S' := (15, [some (.inr (.inl 1)), some (.inl a_), some (.inl x), some (.inl y)], [.inl (((((a_ * (s 101)) + y) * (s 100)) + x))], n, D, s, p, c)) rfl ?_
  have m4 := mul_bd (e := a_) (st := (s 101)) (a := 2) (b := 64) (by omega) (by omega) (by omega) (by omega) (by omega)
  have m5 := mul_bd (e := ((a_ * (s 101)) + y)) (st := (s 100)) (a := 191) (b := 64) (by omega) (by omega) (by omega) (by omega) (by omega)
  exact tt_rti rfl rfl ⟨((((a_ * (s 101)) + y) * (s 100)) + x), rfl, rfl, by omega, rfl, by show (((((a_ * (s 101)) + y) * (s 100)) + x)) + s 100 - x ≤ s 100 * s 101 * s 102; omega⟩
set_option maxRecDepth 100000 in
set_option maxHeartbeats 4000000 in
theorem g_has25 {g : Nat → Int} {Zi : Nat → Option (Nat × (Nat → Int))} {d n q : Nat} {D : Nat → Nat × Nat} {s : Nat → Int} {p : Nat → Nat} {c : Nat → Nat → Int} (hd : 0 ≤ d) (hz : zk Zi) (hq : q + 0 ≤ 400000) (hD : wd n p) (hS : bS s) (hC : bC D c) (hW : wp q g n D p s) (a_ : Int) (x : Int) (y : Int) (b_a_ : -2147483648 ≤ a_ ∧ a_ ≤ 2147483647) (b_x : -2147483648 ≤ x ∧ x ≤ 2147483647) (b_y : -2147483648 ≤ y ∧ y ≤ 2147483647) : tt Zi d 96 (0, [some (.inr (.inl 25)), some (.inl a_), some (.inl x), some (.inl y)], [], n, D, s, p, c) (fun R H => ∃ (r : Int), R = .inl (some (.inl r)) ∧ H = (n, D, s, p, c) ∧ (0 ≤ r ∧ r ≤ 1) ∧ (r = 1 ↔ ((0 ≤ a_ ∧ a_ < s 2502) ∧ (0 ≤ x ∧ x < s 2500) ∧ (0 ≤ y ∧ y < s 2501)))) := by
  refine tt_k 1 (S' := (1, [some (.inr (.inl 25)), some (.inl a_), some (.inl x), some (.inl y)], [.inl a_], n, D, s, p, c)) rfl ?_
  refine tz_lt (x := a_) rfl rfl (by omega) (fun h1 => ?_) (fun h1 => ?_)
  · show tt Zi d 96 (40, [some (.inr (.inl 25)), some (.inl a_), some (.inl x), some (.inl y)], [], n, D, s, p, c) _
    refine tt_k 1 (S' := (41, [some (.inr (.inl 25)), some (.inl a_), some (.inl x), some (.inl y)], [.inl 0], n, D, s, p, c)) rfl ?_
    exact tt_rtb rfl rfl (by omega) ⟨0, rfl, rfl, by omega, by show 0 = 1 ↔ ((0 ≤ a_ ∧ a_ < s 2502) ∧ (0 ≤ x ∧ x < s 2500) ∧ (0 ≤ y ∧ y < s 2501)); omega⟩
  · show tt Zi d 96 (4, [some (.inr (.inl 25)), some (.inl a_), some (.inl x), some (.inl y)], [], n, D, s, p, c) _
    refine tt_k 3 (S' := (9, [some (.inr (.inl 25)), some (.inl a_), some (.inl x), some (.inl y)], [.inl (s 2502), .inl a_], n, D, s, p, c)) rfl ?_
    have b2 : 0 ≤ (s 2502) ∧ (s 2502) ≤ 3 := hS 2502
    refine tb_ge (x := a_) (y := (s 2502)) rfl rfl (by omega) (fun h3 => ?_) (fun h3 => ?_)
    · show tt Zi d 96 (40, [some (.inr (.inl 25)), some (.inl a_), some (.inl x), some (.inl y)], [], n, D, s, p, c) _
      refine tt_k 1 (S' := (41, [some (.inr (.inl 25)), some (.inl a_), some (.inl x), some (.inl y)], [.inl 0], n, D, s, p, c)) rfl ?_
      exact tt_rtb rfl rfl (by omega) ⟨0, rfl, rfl, by omega, by show 0 = 1 ↔ ((0 ≤ a_ ∧ a_ < s 2502) ∧ (0 ≤ x ∧ x < s 2500) ∧ (0 ≤ y ∧ y < s 2501)); omega⟩
    · show tt Zi d 96 (12, [some (.inr (.inl 25)), some (.inl a_), some (.inl x), some (.inl y)], [], n, D, s, p, c) _
      refine tt_k 1 (S' := (13, [some (.inr (.inl 25)), some (.inl a_), some (.inl x), some (.inl y)], [.inl x], n, D, s, p, c)) rfl ?_
      refine tz_lt (x := x) rfl rfl (by omega) (fun h4 => ?_) (fun h4 => ?_)
      · show tt Zi d 96 (40, [some (.inr (.inl 25)), some (.inl a_), some (.inl x), some (.inl y)], [], n, D, s, p, c) _
        refine tt_k 1 (S' := (41, [some (.inr (.inl 25)), some (.inl a_), some (.inl x), some (.inl y)], [.inl 0], n, D, s, p, c)) rfl ?_
        exact tt_rtb rfl rfl (by omega) ⟨0, rfl, rfl, by omega, by show 0 = 1 ↔ ((0 ≤ a_ ∧ a_ < s 2502) ∧ (0 ≤ x ∧ x < s 2500) ∧ (0 ≤ y ∧ y < s 2501)); omega⟩
      · show tt Zi d 96 (16, [some (.inr (.inl 25)), some (.inl a_), some (.inl x), some (.inl y)], [], n, D, s, p, c) _
        refine tt_k 3 (S' := (21, [some (.inr (.inl 25)), some (.inl a_), some (.inl x), some (.inl y)], [.inl (s 2500), .inl x], n, D, s, p, c)) rfl ?_
        have b5 : 0 ≤ (s 2500) ∧ (s 2500) ≤ 64 := hS 2500
        refine tb_ge (x := x) (y := (s 2500)) rfl rfl (by omega) (fun h6 => ?_) (fun h6 => ?_)
        · show tt Zi d 96 (40, [some (.inr (.inl 25)), some (.inl a_), some (.inl x), some (.inl y)], [], n, D, s, p, c) _
          refine tt_k 1 (S' := (41, [some (.inr (.inl 25)), some (.inl a_), some (.inl x), some (.inl y)], [.inl 0], n, D, s, p, c)) rfl ?_
          exact tt_rtb rfl rfl (by omega) ⟨0, rfl, rfl, by omega, by show 0 = 1 ↔ ((0 ≤ a_ ∧ a_ < s 2502) ∧ (0 ≤ x ∧ x < s 2500) ∧ (0 ≤ y ∧ y < s 2501)); omega⟩
        · show tt Zi d 96 (24, [some (.inr (.inl 25)), some (.inl a_), some (.inl x), some (.inl y)], [], n, D, s, p, c) _
          refine tt_k 1 (S' := (25, [some (.inr (.inl 25)), some (.inl a_), some (.inl x), some (.inl y)], [.inl y], n, D, s, p, c)) rfl ?_
          refine tz_lt (x := y) rfl rfl (by omega) (fun h7 => ?_) (fun h7 => ?_)
          · show tt Zi d 96 (40, [some (.inr (.inl 25)), some (.inl a_), some (.inl x), some (.inl y)], [], n, D, s, p, c) _
            refine tt_k 1 (S' := (41, [some (.inr (.inl 25)), some (.inl a_), some (.inl x), some (.inl y)], [.inl 0], n, D, s, p, c)) rfl ?_
            exact tt_rtb rfl rfl (by omega) ⟨0, rfl, rfl, by omega, by show 0 = 1 ↔ ((0 ≤ a_ ∧ a_ < s 2502) ∧ (0 ≤ x ∧ x < s 2500) ∧ (0 ≤ y ∧ y < s 2501)); omega⟩
          · show tt Zi d 96 (28, [some (.inr (.inl 25)), some (.inl a_), some (.inl x), some (.inl y)], [], n, D, s, p, c) _
            refine tt_k 3 (S' := (33, [some (.inr (.inl 25)), some (.inl a_), some (.inl x), some (.inl y)], [.inl (s 2501), .inl y], n, D, s, p, c)) rfl ?_
            have b8 : 0 ≤ (s 2501) ∧ (s 2501) ≤ 64 := hS 2501
            refine tb_ge (x := y) (y := (s 2501)) rfl rfl (by omega) (fun h9 => ?_) (fun h9 => ?_)
            · show tt Zi d 96 (40, [some (.inr (.inl 25)), some (.inl a_), some (.inl x), some (.inl y)], [], n, D, s, p, c) _
              refine tt_k 1 (S' := (41, [some (.inr (.inl 25)), some (.inl a_), some (.inl x), some (.inl y)], [.inl 0], n, D, s, p, c)) rfl ?_
              exact tt_rtb rfl rfl (by omega) ⟨0, rfl, rfl, by omega, by show 0 = 1 ↔ ((0 ≤ a_ ∧ a_ < s 2502) ∧ (0 ≤ x ∧ x < s 2500) ∧ (0 ≤ y ∧ y < s 2501)); omega⟩
            · show tt Zi d 96 (36, [some (.inr (.inl 25)), some (.inl a_), some (.inl x), some (.inl y)], [], n, D, s, p, c) _
              refine tt_k 2 (S' := (41, [some (.inr (.inl 25)), some (.inl a_), some (.inl x), some (.inl y)], [.inl 1], n, D, s, p, c)) rfl ?_
              exact tt_rtb rfl rfl (by omega) ⟨1, rfl, rfl, by omega, by show 1 = 1 ↔ ((0 ≤ a_ ∧ a_ < s 2502) ∧ (0 ≤ x ∧ x < s 2500) ∧ (0 ≤ y ∧ y < s 2501)); omega⟩
set_option maxRecDepth 100000 in
set_option maxHeartbeats 4000000 in
theorem g_index25 {g : Nat → Int} {Zi : Nat → Option (Nat × (Nat → Int))} {d n q : Nat} {D : Nat → Nat × Nat} {s : Nat → Int} {p : Nat → Nat} {c : Nat → Nat → Int} (hd : 0 ≤ d) (hz : zk Zi) (hq : q + 0 ≤ 400000) (hD : wd n p) (hS : bS s) (hC : bC D c) (hW : wp q g n D p s) (a_ : Int) (x : Int) (y : Int) (b_a_ : 0 ≤ a_ ∧ a_ ≤ 2) (b_x : 0 ≤ x ∧ x ≤ 63) (b_y : 0 ≤ y ∧ y ≤ 63) (hp0 : a_ < s 2502 ∧ x < s 2500 ∧ y < s 2501) : tt Zi d 34 (0, [some (.inr (.inl 25)), some (.inl a_), some (.inl x), some (.inl y)], [], n, D, s, p, c) (fun R H => ∃ (r : Int), R = .inl (some (.inl r)) ∧ H = (n, D, s, p, c) ∧ (0 ≤ r ∧ r ≤ 12287) ∧ (r = (a_ * s 2501 + y) * s 2500 + x) ∧ (r + s 2500 - x ≤ s 2500 * s 2501 * s 2502)) := by
  have b1 : 0 ≤ (s 2500) ∧ (s 2500) ≤ 64 := hS 2500
  have b2 : 0 ≤ (s 2501) ∧ (s 2501) ≤ 64 := hS 2501
  have b3 : 0 ≤ (s 2502) ∧ (s 2502) ≤ 3 := hS 2502
  have hix := ix_bd (a := a_) (h := s 2501) (y := y) (w := s 2500) (x := x) (pl := s 2502) (by omega) (by omega) (by omega) (by omega) (by omega) (by omega) (by omega) (by omega) (by omega)
  refine tt_k 11 (S' := (15, [some (.inr (.inl 25)), some (.inl a_), some (.inl x), some (.inl y)], [.inl (((((a_ * (s 2501)) + y) * (s 2500)) + x))], n, D, s, p, c)) rfl ?_
  have m4 := mul_bd (e := a_) (st := (s 2501)) (a := 2) (b := 64) (by omega) (by omega) (by omega) (by omega) (by omega)
  have m5 := mul_bd (e := ((a_ * (s 2501)) + y)) (st := (s 2500)) (a := 191) (b := 64) (by omega) (by omega) (by omega) (by omega) (by omega)
  exact tt_rti rfl rfl ⟨((((a_ * (s 2501)) + y) * (s 2500)) + x), rfl, rfl, by omega, rfl, by show (((((a_ * (s 2501)) + y) * (s 2500)) + x)) + s 2500 - x ≤ s 2500 * s 2501 * s 2502; omega⟩
set_option maxRecDepth 100000 in
set_option maxHeartbeats 4000000 in
theorem g_has27 {g : Nat → Int} {Zi : Nat → Option (Nat × (Nat → Int))} {d n q : Nat} {D : Nat → Nat × Nat} {s : Nat → Int} {p : Nat → Nat} {c : Nat → Nat → Int} (hd : 0 ≤ d) (hz : zk Zi) (hq : q + 0 ≤ 400000) (hD : wd n p) (hS : bS s) (hC : bC D c) (hW : wp q g n D p s) (a_ : Int) (x : Int) (y : Int) (b_a_ : -2147483648 ≤ a_ ∧ a_ ≤ 2147483647) (b_x : -2147483648 ≤ x ∧ x ≤ 2147483647) (b_y : -2147483648 ≤ y ∧ y ≤ 2147483647) : tt Zi d 96 (0, [some (.inr (.inl 27)), some (.inl a_), some (.inl x), some (.inl y)], [], n, D, s, p, c) (fun R H => ∃ (r : Int), R = .inl (some (.inl r)) ∧ H = (n, D, s, p, c) ∧ (0 ≤ r ∧ r ≤ 1) ∧ (r = 1 ↔ ((0 ≤ a_ ∧ a_ < s 2702) ∧ (0 ≤ x ∧ x < s 2700) ∧ (0 ≤ y ∧ y < s 2701)))) := by
  refine tt_k 1 (S' := (1, [some (.inr (.inl 27)), some (.inl a_), some (.inl x), some (.inl y)], [.inl a_], n, D, s, p, c)) rfl ?_
  refine tz_lt (x := a_) rfl rfl (by omega) (fun h1 => ?_) (fun h1 => ?_)
  · show tt Zi d 96 (40, [some (.inr (.inl 27)), some (.inl a_), some (.inl x), some (.inl y)], [], n, D, s, p, c) _
    refine tt_k 1 (S' := (41, [some (.inr (.inl 27)), some (.inl a_), some (.inl x), some (.inl y)], [.inl 0], n, D, s, p, c)) rfl ?_
    exact tt_rtb rfl rfl (by omega) ⟨0, rfl, rfl, by omega, by show 0 = 1 ↔ ((0 ≤ a_ ∧ a_ < s 2702) ∧ (0 ≤ x ∧ x < s 2700) ∧ (0 ≤ y ∧ y < s 2701)); omega⟩
  · show tt Zi d 96 (4, [some (.inr (.inl 27)), some (.inl a_), some (.inl x), some (.inl y)], [], n, D, s, p, c) _
    refine tt_k 3 (S' := (9, [some (.inr (.inl 27)), some (.inl a_), some (.inl x), some (.inl y)], [.inl (s 2702), .inl a_], n, D, s, p, c)) rfl ?_
    have b2 : 0 ≤ (s 2702) ∧ (s 2702) ≤ 3 := hS 2702
    refine tb_ge (x := a_) (y := (s 2702)) rfl rfl (by omega) (fun h3 => ?_) (fun h3 => ?_)
    · show tt Zi d 96 (40, [some (.inr (.inl 27)), some (.inl a_), some (.inl x), some (.inl y)], [], n, D, s, p, c) _
      refine tt_k 1 (S' := (41, [some (.inr (.inl 27)), some (.inl a_), some (.inl x), some (.inl y)], [.inl 0], n, D, s, p, c)) rfl ?_
      exact tt_rtb rfl rfl (by omega) ⟨0, rfl, rfl, by omega, by show 0 = 1 ↔ ((0 ≤ a_ ∧ a_ < s 2702) ∧ (0 ≤ x ∧ x < s 2700) ∧ (0 ≤ y ∧ y < s 2701)); omega⟩
    · show tt Zi d 96 (12, [some (.inr (.inl 27)), some (.inl a_), some (.inl x), some (.inl y)], [], n, D, s, p, c) _
      refine tt_k 1 (S' := (13, [some (.inr (.inl 27)), some (.inl a_), some (.inl x), some (.inl y)], [.inl x], n, D, s, p, c)) rfl ?_
      refine tz_lt (x := x) rfl rfl (by omega) (fun h4 => ?_) (fun h4 => ?_)
      · show tt Zi d 96 (40, [some (.inr (.inl 27)), some (.inl a_), some (.inl x), some (.inl y)], [], n, D, s, p, c) _
        refine tt_k 1 (S' := (41, [some (.inr (.inl 27)), some (.inl a_), some (.inl x), some (.inl y)], [.inl 0], n, D, s, p, c)) rfl ?_
        exact tt_rtb rfl rfl (by omega) ⟨0, rfl, rfl, by omega, by show 0 = 1 ↔ ((0 ≤ a_ ∧ a_ < s 2702) ∧ (0 ≤ x ∧ x < s 2700) ∧ (0 ≤ y ∧ y < s 2701)); omega⟩
      · show tt Zi d 96 (16, [some (.inr (.inl 27)), some (.inl a_), some (.inl x), some (.inl y)], [], n, D, s, p, c) _
        refine tt_k 3 (S' := (21, [some (.inr (.inl 27)), some (.inl a_), some (.inl x), some (.inl y)], [.inl (s 2700), .inl x], n, D, s, p, c)) rfl ?_
        have b5 : 0 ≤ (s 2700) ∧ (s 2700) ≤ 64 := hS 2700
        refine tb_ge (x := x) (y := (s 2700)) rfl rfl (by omega) (fun h6 => ?_) (fun h6 => ?_)
        · show tt Zi d 96 (40, [some (.inr (.inl 27)), some (.inl a_), some (.inl x), some (.inl y)], [], n, D, s, p, c) _
          refine tt_k 1 (S' := (41, [some (.inr (.inl 27)), some (.inl a_), some (.inl x), some (.inl y)], [.inl 0], n, D, s, p, c)) rfl ?_
          exact tt_rtb rfl rfl (by omega) ⟨0, rfl, rfl, by omega, by show 0 = 1 ↔ ((0 ≤ a_ ∧ a_ < s 2702) ∧ (0 ≤ x ∧ x < s 2700) ∧ (0 ≤ y ∧ y < s 2701)); omega⟩
        · show tt Zi d 96 (24, [some (.inr (.inl 27)), some (.inl a_), some (.inl x), some (.inl y)], [], n, D, s, p, c) _
          refine tt_k 1 (S' := (25, [some (.inr (.inl 27)), some (.inl a_), some (.inl x), some (.inl y)], [.inl y], n, D, s, p, c)) rfl ?_
          refine tz_lt (x := y) rfl rfl (by omega) (fun h7 => ?_) (fun h7 => ?_)
          · show tt Zi d 96 (40, [some (.inr (.inl 27)), some (.inl a_), some (.inl x), some (.inl y)], [], n, D, s, p, c) _
            refine tt_k 1 (S' := (41, [some (.inr (.inl 27)), some (.inl a_), some (.inl x), some (.inl y)], [.inl 0], n, D, s, p, c)) rfl ?_
            exact tt_rtb rfl rfl (by omega) ⟨0, rfl, rfl, by omega, by show 0 = 1 ↔ ((0 ≤ a_ ∧ a_ < s 2702) ∧ (0 ≤ x ∧ x < s 2700) ∧ (0 ≤ y ∧ y < s 2701)); omega⟩
          · show tt Zi d 96 (28, [some (.inr (.inl 27)), some (.inl a_), some (.inl x), some (.inl y)], [], n, D, s, p, c) _
            refine tt_k 3 (S' := (33, [some (.inr (.inl 27)), some (.inl a_), some (.inl x), some (.inl y)], [.inl (s 2701), .inl y], n, D, s, p, c)) rfl ?_
            have b8 : 0 ≤ (s 2701) ∧ (s 2701) ≤ 64 := hS 2701
            refine tb_ge (x := y) (y := (s 2701)) rfl rfl (by omega) (fun h9 => ?_) (fun h9 => ?_)
            · show tt Zi d 96 (40, [some (.inr (.inl 27)), some (.inl a_), some (.inl x), some (.inl y)], [], n, D, s, p, c) _
              refine tt_k 1 (S' := (41, [some (.inr (.inl 27)), some (.inl a_), some (.inl x), some (.inl y)], [.inl 0], n, D, s, p, c)) rfl ?_
              exact tt_rtb rfl rfl (by omega) ⟨0, rfl, rfl, by omega, by show 0 = 1 ↔ ((0 ≤ a_ ∧ a_ < s 2702) ∧ (0 ≤ x ∧ x < s 2700) ∧ (0 ≤ y ∧ y < s 2701)); omega⟩
            · show tt Zi d 96 (36, [some (.inr (.inl 27)), some (.inl a_), some (.inl x), some (.inl y)], [], n, D, s, p, c) _
              refine tt_k 2 (S' := (41, [some (.inr (.inl 27)), some (.inl a_), some (.inl x), some (.inl y)], [.inl 1], n, D, s, p, c)) rfl ?_
              exact tt_rtb rfl rfl (by omega) ⟨1, rfl, rfl, by omega, by show 1 = 1 ↔ ((0 ≤ a_ ∧ a_ < s 2702) ∧ (0 ≤ x ∧ x < s 2700) ∧ (0 ≤ y ∧ y < s 2701)); omega⟩
set_option maxRecDepth 100000 in
set_option maxHeartbeats 4000000 in
theorem g_index27 {g : Nat → Int} {Zi : Nat → Option (Nat × (Nat → Int))} {d n q : Nat} {D : Nat → Nat × Nat} {s : Nat → Int} {p : Nat → Nat} {c : Nat → Nat → Int} (hd : 0 ≤ d) (hz : zk Zi) (hq : q + 0 ≤ 400000) (hD : wd n p) (hS : bS s) (hC : bC D c) (hW : wp q g n D p s) (a_ : Int) (x : Int) (y : Int) (b_a_ : 0 ≤ a_ ∧ a_ ≤ 2) (b_x : 0 ≤ x ∧ x ≤ 63) (b_y : 0 ≤ y ∧ y ≤ 63) (hp0 : a_ < s 2702 ∧ x < s 2700 ∧ y < s 2701) : tt Zi d 34 (0, [some (.inr (.inl 27)), some (.inl a_), some (.inl x), some (.inl y)], [], n, D, s, p, c) (fun R H => ∃ (r : Int), R = .inl (some (.inl r)) ∧ H = (n, D, s, p, c) ∧ (0 ≤ r ∧ r ≤ 12287) ∧ (r = (a_ * s 2701 + y) * s 2700 + x) ∧ (r + s 2700 - x ≤ s 2700 * s 2701 * s 2702)) := by
  have b1 : 0 ≤ (s 2700) ∧ (s 2700) ≤ 64 := hS 2700
  have b2 : 0 ≤ (s 2701) ∧ (s 2701) ≤ 64 := hS 2701
  have b3 : 0 ≤ (s 2702) ∧ (s 2702) ≤ 3 := hS 2702
  have hix := ix_bd (a := a_) (h := s 2701) (y := y) (w := s 2700) (x := x) (pl := s 2702) (by omega) (by omega) (by omega) (by omega) (by omega) (by omega) (by omega) (by omega) (by omega)
  refine tt_k 11 (S' := (15, [some (.inr (.inl 27)), some (.inl a_), some (.inl x), some (.inl y)], [.inl (((((a_ * (s 2701)) + y) * (s 2700)) + x))], n, D, s, p, c)) rfl ?_
  have m4 := mul_bd (e := a_) (st := (s 2701)) (a := 2) (b := 64) (by omega) (by omega) (by omega) (by omega) (by omega)
  have m5 := mul_bd (e := ((a_ * (s 2701)) + y)) (st := (s 2700)) (a := 191) (b := 64) (by omega) (by omega) (by omega) (by omega) (by omega)
  exact tt_rti rfl rfl ⟨((((a_ * (s 2701)) + y) * (s 2700)) + x), rfl, rfl, by omega, rfl, by show (((((a_ * (s 2701)) + y) * (s 2700)) + x)) + s 2700 - x ≤ s 2700 * s 2701 * s 2702; omega⟩
set_option maxRecDepth 100000 in
set_option maxHeartbeats 4000000 in
theorem g_greatest1 {g : Nat → Int} {Zi : Nat → Option (Nat × (Nat → Int))} {d n q : Nat} {D : Nat → Nat × Nat} {s : Nat → Int} {p : Nat → Nat} {c : Nat → Nat → Int} (hd : 0 ≤ d) (hz : zk Zi) (hq : q + 0 ≤ 400000) (hD : wd n p) (hS : bS s) (hC : bC D c) (hW : wp q g n D p s)  : tt Zi d 98 (0, [some (.inr (.inl 1))], [], n, D, s, p, c) (fun R H => ∃ (r : Int), R = .inl (some (.inl r)) ∧ H = (n, D, s, p, c) ∧ (3 ≤ r ∧ r ≤ 65535) ∧ (r = mi_shl 1 (s 103) - 1)) := by
  have b1 : 2 ≤ (s 103) ∧ (s 103) ≤ 16 := hS 103
  have e2 : 4 ≤ (mi_shl 1 (s 103)) ∧ (mi_shl 1 (s 103)) ≤ 65536 := mi_shl1b 2 16 (by omega) (by omega) (by decide)
  refine tt_k 6 (S' := (8, [some (.inr (.inl 1))], [.inl (((mi_shl 1 (s 103)) - 1))], n, D, s, p, c)) rfl ?_
  exact tt_rti rfl rfl ⟨((mi_shl 1 (s 103)) - 1), rfl, rfl, by omega, by show (((mi_shl 1 (s 103)) - 1)) = mi_shl 1 (s 103) - 1; omega⟩
