/-! the class's pictures and measures -/
theorem ix_bd {a h y w x pl : Int} (a0 : 0 ≤ a) (a1 : a < pl) (y0 : 0 ≤ y) (y1 : y < h) (x0 : 0 ≤ x) (x1 : x < w) (w1 : w ≤ 64) (h1 : h ≤ 64) (p1 : pl ≤ 3) : (0 ≤ (a * h + y) * w + x ∧ (a * h + y) * w + x + w - x ≤ w * h * pl) ∧ (w * h * pl ≤ 12288 ∧ 0 ≤ a * h ∧ a * h ≤ 192 ∧ 0 ≤ (a * h + y) * w ∧ (a * h + y) * w ≤ 16384) := by
  have b1 : (a + 1) * h ≤ pl * h := Int.mul_le_mul_of_nonneg_right (by omega) (by omega)
  have b2 : (a + 1) * h = a * h + h := by rw [Int.add_mul, Int.one_mul]
  have b0 : 0 ≤ a * h := Int.mul_nonneg a0 (by omega)
  have b6 : pl * h ≤ 3 * h := Int.mul_le_mul_of_nonneg_right (by omega) (by omega)
  have b3 : (a * h + y + 1) * w ≤ pl * h * w := Int.mul_le_mul_of_nonneg_right (by omega) (by omega)
  have b4 : (a * h + y + 1) * w = (a * h + y) * w + w := by rw [Int.add_mul (a * h + y) 1 w, Int.one_mul]
  have b5 : 0 ≤ (a * h + y) * w := Int.mul_nonneg (by omega) (by omega)
  have b7 : pl * h * w = w * h * pl := by rw [Int.mul_comm (pl * h) w, Int.mul_comm pl h, Int.mul_assoc]
  have b8 : pl * h * w ≤ 192 * w := Int.mul_le_mul_of_nonneg_right (by omega) (by omega)
  refine ⟨⟨by omega, by omega⟩, by omega, b0, by omega, b5, by omega⟩
theorem pw_16b {k v : Int} (hk : 0 ≤ k) (h : k = 0 ∨ 2 ^ (k - 1).toNat < v) (hv : v ≤ 65536) : k ≤ 16 := by
  rcases h with h | h
  · omega
  · have h1 := pw_lt (a := k - 1) (b := 16) (x := v)
    by_cases h0 : 0 ≤ k - 1
    · have h2 := h1 h0 (by decide) h (by have e : (2 : Int) ^ (16 : Int).toNat = 65536 := by decide
                                         omega)
      omega
    · omega
theorem rg_le {most near : Int} (hm : 0 ≤ most) (hn : 0 ≤ near) : (most + 2 * near) / (2 * near + 1) ≤ most := by
  have h1 : (most + 2 * near) / (2 * near + 1) < most + 1 := by
    apply Int.ediv_lt_of_lt_mul (by omega)
    have h2 : (most + 1) * (2 * near + 1) = (most + 1) * (2 * near) + (most + 1) := by rw [Int.mul_add, Int.mul_one]
    have h3 : 1 * (2 * near) ≤ (most + 1) * (2 * near) := Int.mul_le_mul_of_nonneg_right (by omega) (by omega)
    rw [h2]
    omega
  omega
set_option maxRecDepth 100000 in
set_option maxHeartbeats 4000000 in
theorem g_isSide {g : Nat → Int} {Zi : Nat → Option (Nat × (Nat → Int))} {d n q : Nat} {D : Nat → Nat × Nat} {s : Nat → Int} {p : Nat → Nat} {c : Nat → Nat → Int} (hd : 0 ≤ d) (hz : zk Zi) (hq : q + 0 ≤ 400000) (hD : wd n p) (hS : bS s) (hC : bC D c) (hW : wp q g n D p s) (v : Int) (b_v : -2147483648 ≤ v ∧ v ≤ 2147483647) : tt Zi d 83 (0, [some (.inl v)], [], n, D, s, p, c) (fun R H => ∃ (r : Int), R = .inl (some (.inl r)) ∧ H = (n, D, s, p, c) ∧ (0 ≤ r ∧ r ≤ 1) ∧ (r = 1 ↔ (1 ≤ v ∧ v ≤ 64))) := by
  refine tt_k 2 (S' := (2, [some (.inl v)], [.inl 1, .inl v], n, D, s, p, c)) rfl ?_
  refine tb_lt (x := v) (y := 1) rfl rfl (by omega) (fun h1 => ?_) (fun h1 => ?_)
  · show tt Zi d 83 (15, [some (.inl v)], [], n, D, s, p, c) _
    refine tt_k 1 (S' := (16, [some (.inl v)], [.inl 0], n, D, s, p, c)) rfl ?_
    exact tt_rtb rfl rfl (by omega) ⟨0, rfl, rfl, by omega, by show 0 = 1 ↔ (1 ≤ v ∧ v ≤ 64); omega⟩
  · show tt Zi d 83 (5, [some (.inl v)], [], n, D, s, p, c) _
    refine tt_k 2 (S' := (8, [some (.inl v)], [.inl 64, .inl v], n, D, s, p, c)) rfl ?_
    refine tb_gt (x := v) (y := 64) rfl rfl (by omega) (fun h2 => ?_) (fun h2 => ?_)
    · show tt Zi d 83 (15, [some (.inl v)], [], n, D, s, p, c) _
      refine tt_k 1 (S' := (16, [some (.inl v)], [.inl 0], n, D, s, p, c)) rfl ?_
      exact tt_rtb rfl rfl (by omega) ⟨0, rfl, rfl, by omega, by show 0 = 1 ↔ (1 ≤ v ∧ v ≤ 64); omega⟩
    · show tt Zi d 83 (11, [some (.inl v)], [], n, D, s, p, c) _
      refine tt_k 2 (S' := (16, [some (.inl v)], [.inl 1], n, D, s, p, c)) rfl ?_
      exact tt_rtb rfl rfl (by omega) ⟨1, rfl, rfl, by omega, by show 1 = 1 ↔ (1 ≤ v ∧ v ≤ 64); omega⟩
set_option maxRecDepth 100000 in
set_option maxHeartbeats 4000000 in
theorem g_isDepth {g : Nat → Int} {Zi : Nat → Option (Nat × (Nat → Int))} {d n q : Nat} {D : Nat → Nat × Nat} {s : Nat → Int} {p : Nat → Nat} {c : Nat → Nat → Int} (hd : 0 ≤ d) (hz : zk Zi) (hq : q + 0 ≤ 400000) (hD : wd n p) (hS : bS s) (hC : bC D c) (hW : wp q g n D p s) (v : Int) (b_v : -2147483648 ≤ v ∧ v ≤ 2147483647) : tt Zi d 81 (0, [some (.inl v)], [], n, D, s, p, c) (fun R H => ∃ (r : Int), R = .inl (some (.inl r)) ∧ H = (n, D, s, p, c) ∧ (0 ≤ r ∧ r ≤ 1) ∧ (r = 1 ↔ (2 ≤ v ∧ v ≤ 16))) := by
  refine tt_k 2 (S' := (2, [some (.inl v)], [.inl 2, .inl v], n, D, s, p, c)) rfl ?_
  refine tb_lt (x := v) (y := 2) rfl rfl (by omega) (fun h1 => ?_) (fun h1 => ?_)
  · show tt Zi d 81 (15, [some (.inl v)], [], n, D, s, p, c) _
    refine tt_k 1 (S' := (16, [some (.inl v)], [.inl 0], n, D, s, p, c)) rfl ?_
    exact tt_rtb rfl rfl (by omega) ⟨0, rfl, rfl, by omega, by show 0 = 1 ↔ (2 ≤ v ∧ v ≤ 16); omega⟩
  · show tt Zi d 81 (5, [some (.inl v)], [], n, D, s, p, c) _
    refine tt_k 2 (S' := (8, [some (.inl v)], [.inl 16, .inl v], n, D, s, p, c)) rfl ?_
    refine tb_gt (x := v) (y := 16) rfl rfl (by omega) (fun h2 => ?_) (fun h2 => ?_)
    · show tt Zi d 81 (15, [some (.inl v)], [], n, D, s, p, c) _
      refine tt_k 1 (S' := (16, [some (.inl v)], [.inl 0], n, D, s, p, c)) rfl ?_
      exact tt_rtb rfl rfl (by omega) ⟨0, rfl, rfl, by omega, by show 0 = 1 ↔ (2 ≤ v ∧ v ≤ 16); omega⟩
    · show tt Zi d 81 (11, [some (.inl v)], [], n, D, s, p, c) _
      refine tt_k 2 (S' := (16, [some (.inl v)], [.inl 1], n, D, s, p, c)) rfl ?_
      exact tt_rtb rfl rfl (by omega) ⟨1, rfl, rfl, by omega, by show 1 = 1 ↔ (2 ≤ v ∧ v ≤ 16); omega⟩
set_option maxRecDepth 100000 in
set_option maxHeartbeats 4000000 in
theorem g_isPC {g : Nat → Int} {Zi : Nat → Option (Nat × (Nat → Int))} {d n q : Nat} {D : Nat → Nat × Nat} {s : Nat → Int} {p : Nat → Nat} {c : Nat → Nat → Int} (hd : 0 ≤ d) (hz : zk Zi) (hq : q + 0 ≤ 400000) (hD : wd n p) (hS : bS s) (hC : bC D c) (hW : wp q g n D p s) (v : Int) (b_v : -2147483648 ≤ v ∧ v ≤ 2147483647) : tt Zi d 84 (0, [some (.inl v)], [], n, D, s, p, c) (fun R H => ∃ (r : Int), R = .inl (some (.inl r)) ∧ H = (n, D, s, p, c) ∧ (0 ≤ r ∧ r ≤ 1) ∧ (r = 1 ↔ (v = 1 ∨ v = 3))) := by
  refine tt_k 2 (S' := (2, [some (.inl v)], [.inl 1, .inl v], n, D, s, p, c)) rfl ?_
  refine tb_eq (x := v) (y := 1) rfl rfl (by omega) (fun h1 => ?_) (fun h1 => ?_)
  · show tt Zi d 84 (10, [some (.inl v)], [], n, D, s, p, c) _
    refine tt_k 2 (S' := (15, [some (.inl v)], [.inl 1], n, D, s, p, c)) rfl ?_
    exact tt_rtb rfl rfl (by omega) ⟨1, rfl, rfl, by omega, by show 1 = 1 ↔ (v = 1 ∨ v = 3); omega⟩
  · show tt Zi d 84 (5, [some (.inl v)], [], n, D, s, p, c) _
    refine tt_k 2 (S' := (7, [some (.inl v)], [.inl 3, .inl v], n, D, s, p, c)) rfl ?_
    refine tb_ne (x := v) (y := 3) rfl rfl (by omega) (fun h2 => ?_) (fun h2 => ?_)
    · show tt Zi d 84 (14, [some (.inl v)], [], n, D, s, p, c) _
      refine tt_k 1 (S' := (15, [some (.inl v)], [.inl 0], n, D, s, p, c)) rfl ?_
      exact tt_rtb rfl rfl (by omega) ⟨0, rfl, rfl, by omega, by show 0 = 1 ↔ (v = 1 ∨ v = 3); omega⟩
    · show tt Zi d 84 (10, [some (.inl v)], [], n, D, s, p, c) _
      refine tt_k 2 (S' := (15, [some (.inl v)], [.inl 1], n, D, s, p, c)) rfl ?_
      exact tt_rtb rfl rfl (by omega) ⟨1, rfl, rfl, by omega, by show 1 = 1 ↔ (v = 1 ∨ v = 3); omega⟩
set_option maxRecDepth 100000 in
set_option maxHeartbeats 4000000 in
theorem g_isNumber {g : Nat → Int} {Zi : Nat → Option (Nat × (Nat → Int))} {d n q : Nat} {D : Nat → Nat × Nat} {s : Nat → Int} {p : Nat → Nat} {c : Nat → Nat → Int} (hd : 0 ≤ d) (hz : zk Zi) (hq : q + 0 ≤ 400000) (hD : wd n p) (hS : bS s) (hC : bC D c) (hW : wp q g n D p s) (v : Int) (b_v : -2147483648 ≤ v ∧ v ≤ 2147483647) : tt Zi d 104 (0, [some (.inl v)], [], n, D, s, p, c) (fun R H => ∃ (r : Int), R = .inl (some (.inl r)) ∧ H = (n, D, s, p, c) ∧ (0 ≤ r ∧ r ≤ 1) ∧ (r = 1 ↔ (0 ≤ v ∧ v ≤ 65535))) := by
  refine tt_k 1 (S' := (1, [some (.inl v)], [.inl v], n, D, s, p, c)) rfl ?_
  refine tz_lt (x := v) rfl rfl (by omega) (fun h1 => ?_) (fun h1 => ?_)
  · show tt Zi d 104 (14, [some (.inl v)], [], n, D, s, p, c) _
    refine tt_k 1 (S' := (15, [some (.inl v)], [.inl 0], n, D, s, p, c)) rfl ?_
    exact tt_rtb rfl rfl (by omega) ⟨0, rfl, rfl, by omega, by show 0 = 1 ↔ (0 ≤ v ∧ v ≤ 65535); omega⟩
  · show tt Zi d 104 (4, [some (.inl v)], [], n, D, s, p, c) _
    refine tt_k 2 (S' := (7, [some (.inl v)], [.inl 65535, .inl v], n, D, s, p, c)) rfl ?_
    refine tb_gt (x := v) (y := 65535) rfl rfl (by omega) (fun h2 => ?_) (fun h2 => ?_)
    · show tt Zi d 104 (14, [some (.inl v)], [], n, D, s, p, c) _
      refine tt_k 1 (S' := (15, [some (.inl v)], [.inl 0], n, D, s, p, c)) rfl ?_
      exact tt_rtb rfl rfl (by omega) ⟨0, rfl, rfl, by omega, by show 0 = 1 ↔ (0 ≤ v ∧ v ≤ 65535); omega⟩
    · show tt Zi d 104 (10, [some (.inl v)], [], n, D, s, p, c) _
      refine tt_k 2 (S' := (15, [some (.inl v)], [.inl 1], n, D, s, p, c)) rfl ?_
      exact tt_rtb rfl rfl (by omega) ⟨1, rfl, rfl, by omega, by show 1 = 1 ↔ (0 ≤ v ∧ v ≤ 65535); omega⟩
set_option maxRecDepth 100000 in
set_option maxHeartbeats 4000000 in
theorem g_frameLength {g : Nat → Int} {Zi : Nat → Option (Nat × (Nat → Int))} {d n q : Nat} {D : Nat → Nat × Nat} {s : Nat → Int} {p : Nat → Nat} {c : Nat → Nat → Int} (hd : 0 ≤ d) (hz : zk Zi) (hq : q + 0 ≤ 400000) (hD : wd n p) (hS : bS s) (hC : bC D c) (hW : wp q g n D p s) (v : Int) (b_v : 0 ≤ v ∧ v ≤ 255) : tt Zi d 85 (0, [some (.inl v)], [], n, D, s, p, c) (fun R H => ∃ (r : Int), R = .inl (some (.inl r)) ∧ H = (n, D, s, p, c) ∧ (8 ≤ r ∧ r ≤ 773) ∧ (r = 8 + 3 * v)) := by
  refine tt_k 5 (S' := (6, [some (.inl v)], [.inl (8 + (3 * v))], n, D, s, p, c)) rfl ?_
  exact tt_rti rfl rfl ⟨(8 + (3 * v)), rfl, rfl, by omega, by show (8 + (3 * v)) = 8 + 3 * v; omega⟩
set_option maxRecDepth 100000 in
set_option maxHeartbeats 4000000 in
theorem g_noise {g : Nat → Int} {Zi : Nat → Option (Nat × (Nat → Int))} {d n q : Nat} {D : Nat → Nat × Nat} {s : Nat → Int} {p : Nat → Nat} {c : Nat → Nat → Int} (hd : 0 ≤ d) (hz : zk Zi) (hq : q + 0 ≤ 400000) (hD : wd n p) (hS : bS s) (hC : bC D c) (hW : wp q g n D p s) (v : Int) (b_v : 0 ≤ v ∧ v ≤ 5000) : tt Zi d 99 (0, [some (.inl v), none], [], n, D, s, p, c) (fun R H => ∃ (r : Int), R = .inl (some (.inl r)) ∧ H = (n, D, s, p, c) ∧ (-2147483648 ≤ r ∧ r ≤ 2147483647) ∧ (r = mi_ushr ((v * 40503 + 12345) * (v * 40503 + 12345)) 7)) := by
  refine tt_k 11 (S' := (15, [some (.inl v), some (.inl ((v * 40503) + 12345))], [.inl ((mi_ushr (((v * 40503) + 12345) * ((v * 40503) + 12345)) 7))], n, D, s, p, c)) rfl ?_
  have m1 := mul_bd (e := ((v * 40503) + 12345)) (st := ((v * 40503) + 12345)) (a := 202527345) (b := 202527345) (by omega) (by omega) (by omega) (by omega) (by omega)
  have e2 := mi_ushr_bd ((((v * 40503) + 12345) * ((v * 40503) + 12345))) 7
  exact tt_rti rfl rfl ⟨(mi_ushr (((v * 40503) + 12345) * ((v * 40503) + 12345)) 7), rfl, rfl, by omega, rfl⟩
set_option maxRecDepth 100000 in
set_option maxHeartbeats 4000000 in
theorem g_has1 {g : Nat → Int} {Zi : Nat → Option (Nat × (Nat → Int))} {d n q : Nat} {D : Nat → Nat × Nat} {s : Nat → Int} {p : Nat → Nat} {c : Nat → Nat → Int} (hd : 0 ≤ d) (hz : zk Zi) (hq : q + 0 ≤ 400000) (hD : wd n p) (hS : bS s) (hC : bC D c) (hW : wp q g n D p s) (a_ : Int) (x : Int) (y : Int) (b_a_ : -2147483648 ≤ a_ ∧ a_ ≤ 2147483647) (b_x : -2147483648 ≤ x ∧ x ≤ 2147483647) (b_y : -2147483648 ≤ y ∧ y ≤ 2147483647) : tt Zi d 96 (0, [some (.inr (.inl 1)), some (.inl a_), some (.inl x), some (.inl y)], [], n, D, s, p, c) (fun R H => ∃ (r : Int), R = .inl (some (.inl r)) ∧ H = (n, D, s, p, c) ∧ (0 ≤ r ∧ r ≤ 1) ∧ (r = 1 ↔ ((0 ≤ a_ ∧ a_ < s 102) ∧ (0 ≤ x ∧ x < s 100) ∧ (0 ≤ y ∧ y < s 101)))) := by
  refine tt_k 1 (S' := (1, [some (.inr (.inl 1)), some (.inl a_), some (.inl x), some (.inl y)], [.inl a_], n, D, s, p, c)) rfl ?_
  refine tz_lt (x := a_) rfl rfl (by omega) (fun h1 => ?_) (fun h1 => ?_)
  · show tt Zi d 96 (40, [some (.inr (.inl 1)), some (.inl a_), some (.inl x), some (.inl y)], [], n, D, s, p, c) _
    refine tt_k 1 (S' := (41, [some (.inr (.inl 1)), some (.inl a_), some (.inl x), some (.inl y)], [.inl 0], n, D, s, p, c)) rfl ?_
    exact tt_rtb rfl rfl (by omega) ⟨0, rfl, rfl, by omega, by show 0 = 1 ↔ ((0 ≤ a_ ∧ a_ < s 102) ∧ (0 ≤ x ∧ x < s 100) ∧ (0 ≤ y ∧ y < s 101)); omega⟩
  · show tt Zi d 96 (4, [some (.inr (.inl 1)), some (.inl a_), some (.inl x), some (.inl y)], [], n, D, s, p, c) _
    refine tt_k 3 (S' := (9, [some (.inr (.inl 1)), some (.inl a_), some (.inl x), some (.inl y)], [.inl (s 102), .inl a_], n, D, s, p, c)) rfl ?_
    have b2 : 1 ≤ (s 102) ∧ (s 102) ≤ 3 := hS 102
    refine tb_ge (x := a_) (y := (s 102)) rfl rfl (by omega) (fun h3 => ?_) (fun h3 => ?_)
    · show tt Zi d 96 (40, [some (.inr (.inl 1)), some (.inl a_), some (.inl x), some (.inl y)], [], n, D, s, p, c) _
      refine tt_k 1 (S' := (41, [some (.inr (.inl 1)), some (.inl a_), some (.inl x), some (.inl y)], [.inl 0], n, D, s, p, c)) rfl ?_
      exact tt_rtb rfl rfl (by omega) ⟨0, rfl, rfl, by omega, by show 0 = 1 ↔ ((0 ≤ a_ ∧ a_ < s 102) ∧ (0 ≤ x ∧ x < s 100) ∧ (0 ≤ y ∧ y < s 101)); omega⟩
    · show tt Zi d 96 (12, [some (.inr (.inl 1)), some (.inl a_), some (.inl x), some (.inl y)], [], n, D, s, p, c) _
      refine tt_k 1 (S' := (13, [some (.inr (.inl 1)), some (.inl a_), some (.inl x), some (.inl y)], [.inl x], n, D, s, p, c)) rfl ?_
      refine tz_lt (x := x) rfl rfl (by omega) (fun h4 => ?_) (fun h4 => ?_)
      · show tt Zi d 96 (40, [some (.inr (.inl 1)), some (.inl a_), some (.inl x), some (.inl y)], [], n, D, s, p, c) _
        refine tt_k 1 (S' := (41, [some (.inr (.inl 1)), some (.inl a_), some (.inl x), some (.inl y)], [.inl 0], n, D, s, p, c)) rfl ?_
        exact tt_rtb rfl rfl (by omega) ⟨0, rfl, rfl, by omega, by show 0 = 1 ↔ ((0 ≤ a_ ∧ a_ < s 102) ∧ (0 ≤ x ∧ x < s 100) ∧ (0 ≤ y ∧ y < s 101)); omega⟩
      · show tt Zi d 96 (16, [some (.inr (.inl 1)), some (.inl a_), some (.inl x), some (.inl y)], [], n, D, s, p, c) _
        refine tt_k 3 (S' := (21, [some (.inr (.inl 1)), some (.inl a_), some (.inl x), some (.inl y)], [.inl (s 100), .inl x], n, D, s, p, c)) rfl ?_
        have b5 : 1 ≤ (s 100) ∧ (s 100) ≤ 64 := hS 100
        refine tb_ge (x := x) (y := (s 100)) rfl rfl (by omega) (fun h6 => ?_) (fun h6 => ?_)
        · show tt Zi d 96 (40, [some (.inr (.inl 1)), some (.inl a_), some (.inl x), some (.inl y)], [], n, D, s, p, c) _
          refine tt_k 1 (S' := (41, [some (.inr (.inl 1)), some (.inl a_), some (.inl x), some (.inl y)], [.inl 0], n, D, s, p, c)) rfl ?_
          exact tt_rtb rfl rfl (by omega) ⟨0, rfl, rfl, by omega, by show 0 = 1 ↔ ((0 ≤ a_ ∧ a_ < s 102) ∧ (0 ≤ x ∧ x < s 100) ∧ (0 ≤ y ∧ y < s 101)); omega⟩
        · show tt Zi d 96 (24, [some (.inr (.inl 1)), some (.inl a_), some (.inl x), some (.inl y)], [], n, D, s, p, c) _
          refine tt_k 1 (S' := (25, [some (.inr (.inl 1)), some (.inl a_), some (.inl x), some (.inl y)], [.inl y], n, D, s, p, c)) rfl ?_
          refine tz_lt (x := y) rfl rfl (by omega) (fun h7 => ?_) (fun h7 => ?_)
          · show tt Zi d 96 (40, [some (.inr (.inl 1)), some (.inl a_), some (.inl x), some (.inl y)], [], n, D, s, p, c) _
            refine tt_k 1 (S' := (41, [some (.inr (.inl 1)), some (.inl a_), some (.inl x), some (.inl y)], [.inl 0], n, D, s, p, c)) rfl ?_
            exact tt_rtb rfl rfl (by omega) ⟨0, rfl, rfl, by omega, by show 0 = 1 ↔ ((0 ≤ a_ ∧ a_ < s 102) ∧ (0 ≤ x ∧ x < s 100) ∧ (0 ≤ y ∧ y < s 101)); omega⟩
          · show tt Zi d 96 (28, [some (.inr (.inl 1)), some (.inl a_), some (.inl x), some (.inl y)], [], n, D, s, p, c) _
            refine tt_k 3 (S' := (33, [some (.inr (.inl 1)), some (.inl a_), some (.inl x), some (.inl y)], [.inl (s 101), .inl y], n, D, s, p, c)) rfl ?_
            have b8 : 1 ≤ (s 101) ∧ (s 101) ≤ 64 := hS 101
            refine tb_ge (x := y) (y := (s 101)) rfl rfl (by omega) (fun h9 => ?_) (fun h9 => ?_)
            · show tt Zi d 96 (40, [some (.inr (.inl 1)), some (.inl a_), some (.inl x), some (.inl y)], [], n, D, s, p, c) _
              refine tt_k 1 (S' := (41, [some (.inr (.inl 1)), some (.inl a_), some (.inl x), some (.inl y)], [.inl 0], n, D, s, p, c)) rfl ?_
              exact tt_rtb rfl rfl (by omega) ⟨0, rfl, rfl, by omega, by show 0 = 1 ↔ ((0 ≤ a_ ∧ a_ < s 102) ∧ (0 ≤ x ∧ x < s 100) ∧ (0 ≤ y ∧ y < s 101)); omega⟩
            · show tt Zi d 96 (36, [some (.inr (.inl 1)), some (.inl a_), some (.inl x), some (.inl y)], [], n, D, s, p, c) _
              refine tt_k 2 (S' := (41, [some (.inr (.inl 1)), some (.inl a_), some (.inl x), some (.inl y)], [.inl 1], n, D, s, p, c)) rfl ?_
              exact tt_rtb rfl rfl (by omega) ⟨1, rfl, rfl, by omega, by show 1 = 1 ↔ ((0 ≤ a_ ∧ a_ < s 102) ∧ (0 ≤ x ∧ x < s 100) ∧ (0 ≤ y ∧ y < s 101)); omega⟩
set_option maxRecDepth 100000 in
set_option maxHeartbeats 4000000 in
theorem g_hasRoom1 {g : Nat → Int} {Zi : Nat → Option (Nat × (Nat → Int))} {d n q : Nat} {D : Nat → Nat × Nat} {s : Nat → Int} {p : Nat → Nat} {c : Nat → Nat → Int} (hd : 0 ≤ d) (hz : zk Zi) (hq : q + 0 ≤ 400000) (hD : wd n p) (hS : bS s) (hC : bC D c) (hW : wp q g n D p s) (x : Int) (y : Int) (wide : Int) (high : Int) (b_x : 0 ≤ x ∧ x ≤ 64) (b_y : 0 ≤ y ∧ y ≤ 64) (b_wide : -2147483648 ≤ wide ∧ wide ≤ 2147483647) (b_high : -2147483648 ≤ high ∧ high ≤ 2147483647) : tt Zi d 97 (0, [some (.inr (.inl 1)), some (.inl x), some (.inl y), some (.inl wide), some (.inl high)], [], n, D, s, p, c) (fun R H => ∃ (r : Int), R = .inl (some (.inl r)) ∧ H = (n, D, s, p, c) ∧ (0 ≤ r ∧ r ≤ 1) ∧ (r = 1 ↔ ((1 ≤ wide ∧ wide ≤ s 100 - x) ∧ (1 ≤ high ∧ high ≤ s 101 - y)))) := by
  refine tt_k 2 (S' := (2, [some (.inr (.inl 1)), some (.inl x), some (.inl y), some (.inl wide), some (.inl high)], [.inl 1, .inl wide], n, D, s, p, c)) rfl ?_
  refine tb_lt (x := wide) (y := 1) rfl rfl (by omega) (fun h1 => ?_) (fun h1 => ?_)
  · show tt Zi d 97 (36, [some (.inr (.inl 1)), some (.inl x), some (.inl y), some (.inl wide), some (.inl high)], [], n, D, s, p, c) _
    refine tt_k 1 (S' := (37, [some (.inr (.inl 1)), some (.inl x), some (.inl y), some (.inl wide), some (.inl high)], [.inl 0], n, D, s, p, c)) rfl ?_
    exact tt_rtb rfl rfl (by omega) ⟨0, rfl, rfl, by omega, by show 0 = 1 ↔ ((1 ≤ wide ∧ wide ≤ s 100 - x) ∧ (1 ≤ high ∧ high ≤ s 101 - y)); omega⟩
  · show tt Zi d 97 (5, [some (.inr (.inl 1)), some (.inl x), some (.inl y), some (.inl wide), some (.inl high)], [], n, D, s, p, c) _
    refine tt_k 5 (S' := (12, [some (.inr (.inl 1)), some (.inl x), some (.inl y), some (.inl wide), some (.inl high)], [.inl ((s 100) - x), .inl wide], n, D, s, p, c)) rfl ?_
    have b2 : 1 ≤ (s 100) ∧ (s 100) ≤ 64 := hS 100
    refine tb_gt (x := wide) (y := ((s 100) - x)) rfl rfl (by omega) (fun h3 => ?_) (fun h3 => ?_)
    · show tt Zi d 97 (36, [some (.inr (.inl 1)), some (.inl x), some (.inl y), some (.inl wide), some (.inl high)], [], n, D, s, p, c) _
      refine tt_k 1 (S' := (37, [some (.inr (.inl 1)), some (.inl x), some (.inl y), some (.inl wide), some (.inl high)], [.inl 0], n, D, s, p, c)) rfl ?_
      exact tt_rtb rfl rfl (by omega) ⟨0, rfl, rfl, by omega, by show 0 = 1 ↔ ((1 ≤ wide ∧ wide ≤ s 100 - x) ∧ (1 ≤ high ∧ high ≤ s 101 - y)); omega⟩
    · show tt Zi d 97 (15, [some (.inr (.inl 1)), some (.inl x), some (.inl y), some (.inl wide), some (.inl high)], [], n, D, s, p, c) _
      refine tt_k 2 (S' := (18, [some (.inr (.inl 1)), some (.inl x), some (.inl y), some (.inl wide), some (.inl high)], [.inl 1, .inl high], n, D, s, p, c)) rfl ?_
      refine tb_lt (x := high) (y := 1) rfl rfl (by omega) (fun h4 => ?_) (fun h4 => ?_)
      · show tt Zi d 97 (36, [some (.inr (.inl 1)), some (.inl x), some (.inl y), some (.inl wide), some (.inl high)], [], n, D, s, p, c) _
        refine tt_k 1 (S' := (37, [some (.inr (.inl 1)), some (.inl x), some (.inl y), some (.inl wide), some (.inl high)], [.inl 0], n, D, s, p, c)) rfl ?_
        exact tt_rtb rfl rfl (by omega) ⟨0, rfl, rfl, by omega, by show 0 = 1 ↔ ((1 ≤ wide ∧ wide ≤ s 100 - x) ∧ (1 ≤ high ∧ high ≤ s 101 - y)); omega⟩
      · show tt Zi d 97 (21, [some (.inr (.inl 1)), some (.inl x), some (.inl y), some (.inl wide), some (.inl high)], [], n, D, s, p, c) _
        refine tt_k 5 (S' := (29, [some (.inr (.inl 1)), some (.inl x), some (.inl y), some (.inl wide), some (.inl high)], [.inl ((s 101) - y), .inl high], n, D, s, p, c)) rfl ?_
        have b5 : 1 ≤ (s 101) ∧ (s 101) ≤ 64 := hS 101
        refine tb_gt (x := high) (y := ((s 101) - y)) rfl rfl (by omega) (fun h6 => ?_) (fun h6 => ?_)
        · show tt Zi d 97 (36, [some (.inr (.inl 1)), some (.inl x), some (.inl y), some (.inl wide), some (.inl high)], [], n, D, s, p, c) _
          refine tt_k 1 (S' := (37, [some (.inr (.inl 1)), some (.inl x), some (.inl y), some (.inl wide), some (.inl high)], [.inl 0], n, D, s, p, c)) rfl ?_
          exact tt_rtb rfl rfl (by omega) ⟨0, rfl, rfl, by omega, by show 0 = 1 ↔ ((1 ≤ wide ∧ wide ≤ s 100 - x) ∧ (1 ≤ high ∧ high ≤ s 101 - y)); omega⟩
        · show tt Zi d 97 (32, [some (.inr (.inl 1)), some (.inl x), some (.inl y), some (.inl wide), some (.inl high)], [], n, D, s, p, c) _
          refine tt_k 2 (S' := (37, [some (.inr (.inl 1)), some (.inl x), some (.inl y), some (.inl wide), some (.inl high)], [.inl 1], n, D, s, p, c)) rfl ?_
          exact tt_rtb rfl rfl (by omega) ⟨1, rfl, rfl, by omega, by show 1 = 1 ↔ ((1 ≤ wide ∧ wide ≤ s 100 - x) ∧ (1 ≤ high ∧ high ≤ s 101 - y)); omega⟩
set_option maxRecDepth 100000 in
set_option maxHeartbeats 4000000 in
theorem g_index1 {g : Nat → Int} {Zi : Nat → Option (Nat × (Nat → Int))} {d n q : Nat} {D : Nat → Nat × Nat} {s : Nat → Int} {p : Nat → Nat} {c : Nat → Nat → Int} (hd : 0 ≤ d) (hz : zk Zi) (hq : q + 0 ≤ 400000) (hD : wd n p) (hS : bS s) (hC : bC D c) (hW : wp q g n D p s) (a_ : Int) (x : Int) (y : Int) (b_a_ : 0 ≤ a_ ∧ a_ ≤ 2) (b_x : 0 ≤ x ∧ x ≤ 63) (b_y : 0 ≤ y ∧ y ≤ 63) (hp0 : a_ < s 102 ∧ x < s 100 ∧ y < s 101) : tt Zi d 34 (0, [some (.inr (.inl 1)), some (.inl a_), some (.inl x), some (.inl y)], [], n, D, s, p, c) (fun R H => ∃ (r : Int), R = .inl (some (.inl r)) ∧ H = (n, D, s, p, c) ∧ (0 ≤ r ∧ r ≤ 12287) ∧ (r = (a_ * s 101 + y) * s 100 + x) ∧ (r + s 100 - x ≤ s 100 * s 101 * s 102)) := by
  have b1 : 1 ≤ (s 100) ∧ (s 100) ≤ 64 := hS 100
  have b2 : 1 ≤ (s 101) ∧ (s 101) ≤ 64 := hS 101
  have b3 : 1 ≤ (s 102) ∧ (s 102) ≤ 3 := hS 102
  have hix := ix_bd (a := a_) (h := s 101) (y := y) (w := s 100) (x := x) (pl := s 102) (by omega) (by omega) (by omega) (by omega) (by omega) (by omega) (by omega) (by omega) (by omega)
  refine tt_k 11 (S' := (15, [some (.inr (.inl 1)), some (.inl a_), some (.inl x), some (.inl y)], [.inl (((((a_ * (s 101)) + y) * (s 100)) + x))], n, D, s, p, c)) rfl ?_
  have m4 := mul_bd (e := a_) (st := (s 101)) (a := 2) (b := 64) (by omega) (by omega) (by omega) (by omega) (by omega)
  have m5 := mul_bd (e := ((a_ * (s 101)) + y)) (st := (s 100)) (a := 191) (b := 64) (by omega) (by omega) (by omega) (by omega) (by omega)
  exact tt_rti rfl rfl ⟨((((a_ * (s 101)) + y) * (s 100)) + x), rfl, rfl, by omega, rfl, by show (((((a_ * (s 101)) + y) * (s 100)) + x)) + s 100 - x ≤ s 100 * s 101 * s 102; omega⟩
set_option maxRecDepth 100000 in
set_option maxHeartbeats 4000000 in
theorem g_has25 {g : Nat → Int} {Zi : Nat → Option (Nat × (Nat → Int))} {d n q : Nat} {D : Nat → Nat × Nat} {s : Nat → Int} {p : Nat → Nat} {c : Nat → Nat → Int} (hd : 0 ≤ d) (hz : zk Zi) (hq : q + 0 ≤ 400000) (hD : wd n p) (hS : bS s) (hC : bC D c) (hW : wp q g n D p s) (a_ : Int) (x : Int) (y : Int) (b_a_ : -2147483648 ≤ a_ ∧ a_ ≤ 2147483647) (b_x : -2147483648 ≤ x ∧ x ≤ 2147483647) (b_y : -2147483648 ≤ y ∧ y ≤ 2147483647) : tt Zi d 96 (0, [some (.inr (.inl 25)), some (.inl a_), some (.inl x), some (.inl y)], [], n, D, s, p, c) (fun R H => ∃ (r : Int), R = .inl (some (.inl r)) ∧ H = (n, D, s, p, c) ∧ (0 ≤ r ∧ r ≤ 1) ∧ (r = 1 ↔ ((0 ≤ a_ ∧ a_ < s 2502) ∧ (0 ≤ x ∧ x < s 2500) ∧ (0 ≤ y ∧ y < s 2501)))) := by
  refine tt_k 1 (S' := (1, [some (.inr (.inl 25)), some (.inl a_), some (.inl x), some (.inl y)], [.inl a_], n, D, s, p, c)) rfl ?_
  refine tz_lt (x := a_) rfl rfl (by omega) (fun h1 => ?_) (fun h1 => ?_)
  · show tt Zi d 96 (40, [some (.inr (.inl 25)), some (.inl a_), some (.inl x), some (.inl y)], [], n, D, s, p, c) _
    refine tt_k 1 (S' := (41, [some (.inr (.inl 25)), some (.inl a_), some (.inl x), some (.inl y)], [.inl 0], n, D, s, p, c)) rfl ?_
    exact tt_rtb rfl rfl (by omega) ⟨0, rfl, rfl, by omega, by show 0 = 1 ↔ ((0 ≤ a_ ∧ a_ < s 2502) ∧ (0 ≤ x ∧ x < s 2500) ∧ (0 ≤ y ∧ y < s 2501)); omega⟩
  · show tt Zi d 96 (4, [some (.inr (.inl 25)), some (.inl a_), some (.inl x), some (.inl y)], [], n, D, s, p, c) _
    refine tt_k 3 (S' := (9, [some (.inr (.inl 25)), some (.inl a_), some (.inl x), some (.inl y)], [.inl (s 2502), .inl a_], n, D, s, p, c)) rfl ?_
    have b2 : 0 ≤ (s 2502) ∧ (s 2502) ≤ 3 := hS 2502
    refine tb_ge (x := a_) (y := (s 2502)) rfl rfl (by omega) (fun h3 => ?_) (fun h3 => ?_)
    · show tt Zi d 96 (40, [some (.inr (.inl 25)), some (.inl a_), some (.inl x), some (.inl y)], [], n, D, s, p, c) _
      refine tt_k 1 (S' := (41, [some (.inr (.inl 25)), some (.inl a_), some (.inl x), some (.inl y)], [.inl 0], n, D, s, p, c)) rfl ?_
      exact tt_rtb rfl rfl (by omega) ⟨0, rfl, rfl, by omega, by show 0 = 1 ↔ ((0 ≤ a_ ∧ a_ < s 2502) ∧ (0 ≤ x ∧ x < s 2500) ∧ (0 ≤ y ∧ y < s 2501)); omega⟩
    · show tt Zi d 96 (12, [some (.inr (.inl 25)), some (.inl a_), some (.inl x), some (.inl y)], [], n, D, s, p, c) _
      refine tt_k 1 (S' := (13, [some (.inr (.inl 25)), some (.inl a_), some (.inl x), some (.inl y)], [.inl x], n, D, s, p, c)) rfl ?_
      refine tz_lt (x := x) rfl rfl (by omega) (fun h4 => ?_) (fun h4 => ?_)
      · show tt Zi d 96 (40, [some (.inr (.inl 25)), some (.inl a_), some (.inl x), some (.inl y)], [], n, D, s, p, c) _
        refine tt_k 1 (S' := (41, [some (.inr (.inl 25)), some (.inl a_), some (.inl x), some (.inl y)], [.inl 0], n, D, s, p, c)) rfl ?_
        exact tt_rtb rfl rfl (by omega) ⟨0, rfl, rfl, by omega, by show 0 = 1 ↔ ((0 ≤ a_ ∧ a_ < s 2502) ∧ (0 ≤ x ∧ x < s 2500) ∧ (0 ≤ y ∧ y < s 2501)); omega⟩
      · show tt Zi d 96 (16, [some (.inr (.inl 25)), some (.inl a_), some (.inl x), some (.inl y)], [], n, D, s, p, c) _
        refine tt_k 3 (S' := (21, [some (.inr (.inl 25)), some (.inl a_), some (.inl x), some (.inl y)], [.inl (s 2500), .inl x], n, D, s, p, c)) rfl ?_
        have b5 : 0 ≤ (s 2500) ∧ (s 2500) ≤ 64 := hS 2500
        refine tb_ge (x := x) (y := (s 2500)) rfl rfl (by omega) (fun h6 => ?_) (fun h6 => ?_)
        · show tt Zi d 96 (40, [some (.inr (.inl 25)), some (.inl a_), some (.inl x), some (.inl y)], [], n, D, s, p, c) _
          refine tt_k 1 (S' := (41, [some (.inr (.inl 25)), some (.inl a_), some (.inl x), some (.inl y)], [.inl 0], n, D, s, p, c)) rfl ?_
          exact tt_rtb rfl rfl (by omega) ⟨0, rfl, rfl, by omega, by show 0 = 1 ↔ ((0 ≤ a_ ∧ a_ < s 2502) ∧ (0 ≤ x ∧ x < s 2500) ∧ (0 ≤ y ∧ y < s 2501)); omega⟩
        · show tt Zi d 96 (24, [some (.inr (.inl 25)), some (.inl a_), some (.inl x), some (.inl y)], [], n, D, s, p, c) _
          refine tt_k 1 (S' := (25, [some (.inr (.inl 25)), some (.inl a_), some (.inl x), some (.inl y)], [.inl y], n, D, s, p, c)) rfl ?_
          refine tz_lt (x := y) rfl rfl (by omega) (fun h7 => ?_) (fun h7 => ?_)
          · show tt Zi d 96 (40, [some (.inr (.inl 25)), some (.inl a_), some (.inl x), some (.inl y)], [], n, D, s, p, c) _
            refine tt_k 1 (S' := (41, [some (.inr (.inl 25)), some (.inl a_), some (.inl x), some (.inl y)], [.inl 0], n, D, s, p, c)) rfl ?_
            exact tt_rtb rfl rfl (by omega) ⟨0, rfl, rfl, by omega, by show 0 = 1 ↔ ((0 ≤ a_ ∧ a_ < s 2502) ∧ (0 ≤ x ∧ x < s 2500) ∧ (0 ≤ y ∧ y < s 2501)); omega⟩
          · show tt Zi d 96 (28, [some (.inr (.inl 25)), some (.inl a_), some (.inl x), some (.inl y)], [], n, D, s, p, c) _
            refine tt_k 3 (S' := (33, [some (.inr (.inl 25)), some (.inl a_), some (.inl x), some (.inl y)], [.inl (s 2501), .inl y], n, D, s, p, c)) rfl ?_
            have b8 : 0 ≤ (s 2501) ∧ (s 2501) ≤ 64 := hS 2501
            refine tb_ge (x := y) (y := (s 2501)) rfl rfl (by omega) (fun h9 => ?_) (fun h9 => ?_)
            · show tt Zi d 96 (40, [some (.inr (.inl 25)), some (.inl a_), some (.inl x), some (.inl y)], [], n, D, s, p, c) _
              refine tt_k 1 (S' := (41, [some (.inr (.inl 25)), some (.inl a_), some (.inl x), some (.inl y)], [.inl 0], n, D, s, p, c)) rfl ?_
              exact tt_rtb rfl rfl (by omega) ⟨0, rfl, rfl, by omega, by show 0 = 1 ↔ ((0 ≤ a_ ∧ a_ < s 2502) ∧ (0 ≤ x ∧ x < s 2500) ∧ (0 ≤ y ∧ y < s 2501)); omega⟩
            · show tt Zi d 96 (36, [some (.inr (.inl 25)), some (.inl a_), some (.inl x), some (.inl y)], [], n, D, s, p, c) _
              refine tt_k 2 (S' := (41, [some (.inr (.inl 25)), some (.inl a_), some (.inl x), some (.inl y)], [.inl 1], n, D, s, p, c)) rfl ?_
              exact tt_rtb rfl rfl (by omega) ⟨1, rfl, rfl, by omega, by show 1 = 1 ↔ ((0 ≤ a_ ∧ a_ < s 2502) ∧ (0 ≤ x ∧ x < s 2500) ∧ (0 ≤ y ∧ y < s 2501)); omega⟩
set_option maxRecDepth 100000 in
set_option maxHeartbeats 4000000 in
theorem g_index25 {g : Nat → Int} {Zi : Nat → Option (Nat × (Nat → Int))} {d n q : Nat} {D : Nat → Nat × Nat} {s : Nat → Int} {p : Nat → Nat} {c : Nat → Nat → Int} (hd : 0 ≤ d) (hz : zk Zi) (hq : q + 0 ≤ 400000) (hD : wd n p) (hS : bS s) (hC : bC D c) (hW : wp q g n D p s) (a_ : Int) (x : Int) (y : Int) (b_a_ : 0 ≤ a_ ∧ a_ ≤ 2) (b_x : 0 ≤ x ∧ x ≤ 63) (b_y : 0 ≤ y ∧ y ≤ 63) (hp0 : a_ < s 2502 ∧ x < s 2500 ∧ y < s 2501) : tt Zi d 34 (0, [some (.inr (.inl 25)), some (.inl a_), some (.inl x), some (.inl y)], [], n, D, s, p, c) (fun R H => ∃ (r : Int), R = .inl (some (.inl r)) ∧ H = (n, D, s, p, c) ∧ (0 ≤ r ∧ r ≤ 12287) ∧ (r = (a_ * s 2501 + y) * s 2500 + x) ∧ (r + s 2500 - x ≤ s 2500 * s 2501 * s 2502)) := by
  have b1 : 0 ≤ (s 2500) ∧ (s 2500) ≤ 64 := hS 2500
  have b2 : 0 ≤ (s 2501) ∧ (s 2501) ≤ 64 := hS 2501
  have b3 : 0 ≤ (s 2502) ∧ (s 2502) ≤ 3 := hS 2502
  have hix := ix_bd (a := a_) (h := s 2501) (y := y) (w := s 2500) (x := x) (pl := s 2502) (by omega) (by omega) (by omega) (by omega) (by omega) (by omega) (by omega) (by omega) (by omega)
  refine tt_k 11 (S' := (15, [some (.inr (.inl 25)), some (.inl a_), some (.inl x), some (.inl y)], [.inl (((((a_ * (s 2501)) + y) * (s 2500)) + x))], n, D, s, p, c)) rfl ?_
  have m4 := mul_bd (e := a_) (st := (s 2501)) (a := 2) (b := 64) (by omega) (by omega) (by omega) (by omega) (by omega)
  have m5 := mul_bd (e := ((a_ * (s 2501)) + y)) (st := (s 2500)) (a := 191) (b := 64) (by omega) (by omega) (by omega) (by omega) (by omega)
  exact tt_rti rfl rfl ⟨((((a_ * (s 2501)) + y) * (s 2500)) + x), rfl, rfl, by omega, rfl, by show (((((a_ * (s 2501)) + y) * (s 2500)) + x)) + s 2500 - x ≤ s 2500 * s 2501 * s 2502; omega⟩
set_option maxRecDepth 100000 in
set_option maxHeartbeats 4000000 in
theorem g_has27 {g : Nat → Int} {Zi : Nat → Option (Nat × (Nat → Int))} {d n q : Nat} {D : Nat → Nat × Nat} {s : Nat → Int} {p : Nat → Nat} {c : Nat → Nat → Int} (hd : 0 ≤ d) (hz : zk Zi) (hq : q + 0 ≤ 400000) (hD : wd n p) (hS : bS s) (hC : bC D c) (hW : wp q g n D p s) (a_ : Int) (x : Int) (y : Int) (b_a_ : -2147483648 ≤ a_ ∧ a_ ≤ 2147483647) (b_x : -2147483648 ≤ x ∧ x ≤ 2147483647) (b_y : -2147483648 ≤ y ∧ y ≤ 2147483647) : tt Zi d 96 (0, [some (.inr (.inl 27)), some (.inl a_), some (.inl x), some (.inl y)], [], n, D, s, p, c) (fun R H => ∃ (r : Int), R = .inl (some (.inl r)) ∧ H = (n, D, s, p, c) ∧ (0 ≤ r ∧ r ≤ 1) ∧ (r = 1 ↔ ((0 ≤ a_ ∧ a_ < s 2702) ∧ (0 ≤ x ∧ x < s 2700) ∧ (0 ≤ y ∧ y < s 2701)))) := by
  refine tt_k 1 (S' := (1, [some (.inr (.inl 27)), some (.inl a_), some (.inl x), some (.inl y)], [.inl a_], n, D, s, p, c)) rfl ?_
  refine tz_lt (x := a_) rfl rfl (by omega) (fun h1 => ?_) (fun h1 => ?_)
  · show tt Zi d 96 (40, [some (.inr (.inl 27)), some (.inl a_), some (.inl x), some (.inl y)], [], n, D, s, p, c) _
    refine tt_k 1 (S' := (41, [some (.inr (.inl 27)), some (.inl a_), some (.inl x), some (.inl y)], [.inl 0], n, D, s, p, c)) rfl ?_
    exact tt_rtb rfl rfl (by omega) ⟨0, rfl, rfl, by omega, by show 0 = 1 ↔ ((0 ≤ a_ ∧ a_ < s 2702) ∧ (0 ≤ x ∧ x < s 2700) ∧ (0 ≤ y ∧ y < s 2701)); omega⟩
  · show tt Zi d 96 (4, [some (.inr (.inl 27)), some (.inl a_), some (.inl x), some (.inl y)], [], n, D, s, p, c) _
    refine tt_k 3 (S' := (9, [some (.inr (.inl 27)), some (.inl a_), some (.inl x), some (.inl y)], [.inl (s 2702), .inl a_], n, D, s, p, c)) rfl ?_
    have b2 : 0 ≤ (s 2702) ∧ (s 2702) ≤ 3 := hS 2702
    refine tb_ge (x := a_) (y := (s 2702)) rfl rfl (by omega) (fun h3 => ?_) (fun h3 => ?_)
    · show tt Zi d 96 (40, [some (.inr (.inl 27)), some (.inl a_), some (.inl x), some (.inl y)], [], n, D, s, p, c) _
      refine tt_k 1 (S' := (41, [some (.inr (.inl 27)), some (.inl a_), some (.inl x), some (.inl y)], [.inl 0], n, D, s, p, c)) rfl ?_
      exact tt_rtb rfl rfl (by omega) ⟨0, rfl, rfl, by omega, by show 0 = 1 ↔ ((0 ≤ a_ ∧ a_ < s 2702) ∧ (0 ≤ x ∧ x < s 2700) ∧ (0 ≤ y ∧ y < s 2701)); omega⟩
    · show tt Zi d 96 (12, [some (.inr (.inl 27)), some (.inl a_), some (.inl x), some (.inl y)], [], n, D, s, p, c) _
      refine tt_k 1 (S' := (13, [some (.inr (.inl 27)), some (.inl a_), some (.inl x), some (.inl y)], [.inl x], n, D, s, p, c)) rfl ?_
      refine tz_lt (x := x) rfl rfl (by omega) (fun h4 => ?_) (fun h4 => ?_)
      · show tt Zi d 96 (40, [some (.inr (.inl 27)), some (.inl a_), some (.inl x), some (.inl y)], [], n, D, s, p, c) _
        refine tt_k 1 (S' := (41, [some (.inr (.inl 27)), some (.inl a_), some (.inl x), some (.inl y)], [.inl 0], n, D, s, p, c)) rfl ?_
        exact tt_rtb rfl rfl (by omega) ⟨0, rfl, rfl, by omega, by show 0 = 1 ↔ ((0 ≤ a_ ∧ a_ < s 2702) ∧ (0 ≤ x ∧ x < s 2700) ∧ (0 ≤ y ∧ y < s 2701)); omega⟩
      · show tt Zi d 96 (16, [some (.inr (.inl 27)), some (.inl a_), some (.inl x), some (.inl y)], [], n, D, s, p, c) _
        refine tt_k 3 (S' := (21, [some (.inr (.inl 27)), some (.inl a_), some (.inl x), some (.inl y)], [.inl (s 2700), .inl x], n, D, s, p, c)) rfl ?_
        have b5 : 0 ≤ (s 2700) ∧ (s 2700) ≤ 64 := hS 2700
        refine tb_ge (x := x) (y := (s 2700)) rfl rfl (by omega) (fun h6 => ?_) (fun h6 => ?_)
        · show tt Zi d 96 (40, [some (.inr (.inl 27)), some (.inl a_), some (.inl x), some (.inl y)], [], n, D, s, p, c) _
          refine tt_k 1 (S' := (41, [some (.inr (.inl 27)), some (.inl a_), some (.inl x), some (.inl y)], [.inl 0], n, D, s, p, c)) rfl ?_
          exact tt_rtb rfl rfl (by omega) ⟨0, rfl, rfl, by omega, by show 0 = 1 ↔ ((0 ≤ a_ ∧ a_ < s 2702) ∧ (0 ≤ x ∧ x < s 2700) ∧ (0 ≤ y ∧ y < s 2701)); omega⟩
        · show tt Zi d 96 (24, [some (.inr (.inl 27)), some (.inl a_), some (.inl x), some (.inl y)], [], n, D, s, p, c) _
          refine tt_k 1 (S' := (25, [some (.inr (.inl 27)), some (.inl a_), some (.inl x), some (.inl y)], [.inl y], n, D, s, p, c)) rfl ?_
          refine tz_lt (x := y) rfl rfl (by omega) (fun h7 => ?_) (fun h7 => ?_)
          · show tt Zi d 96 (40, [some (.inr (.inl 27)), some (.inl a_), some (.inl x), some (.inl y)], [], n, D, s, p, c) _
            refine tt_k 1 (S' := (41, [some (.inr (.inl 27)), some (.inl a_), some (.inl x), some (.inl y)], [.inl 0], n, D, s, p, c)) rfl ?_
            exact tt_rtb rfl rfl (by omega) ⟨0, rfl, rfl, by omega, by show 0 = 1 ↔ ((0 ≤ a_ ∧ a_ < s 2702) ∧ (0 ≤ x ∧ x < s 2700) ∧ (0 ≤ y ∧ y < s 2701)); omega⟩
          · show tt Zi d 96 (28, [some (.inr (.inl 27)), some (.inl a_), some (.inl x), some (.inl y)], [], n, D, s, p, c) _
            refine tt_k 3 (S' := (33, [some (.inr (.inl 27)), some (.inl a_), some (.inl x), some (.inl y)], [.inl (s 2701), .inl y], n, D, s, p, c)) rfl ?_
            have b8 : 0 ≤ (s 2701) ∧ (s 2701) ≤ 64 := hS 2701
            refine tb_ge (x := y) (y := (s 2701)) rfl rfl (by omega) (fun h9 => ?_) (fun h9 => ?_)
            · show tt Zi d 96 (40, [some (.inr (.inl 27)), some (.inl a_), some (.inl x), some (.inl y)], [], n, D, s, p, c) _
              refine tt_k 1 (S' := (41, [some (.inr (.inl 27)), some (.inl a_), some (.inl x), some (.inl y)], [.inl 0], n, D, s, p, c)) rfl ?_
              exact tt_rtb rfl rfl (by omega) ⟨0, rfl, rfl, by omega, by show 0 = 1 ↔ ((0 ≤ a_ ∧ a_ < s 2702) ∧ (0 ≤ x ∧ x < s 2700) ∧ (0 ≤ y ∧ y < s 2701)); omega⟩
            · show tt Zi d 96 (36, [some (.inr (.inl 27)), some (.inl a_), some (.inl x), some (.inl y)], [], n, D, s, p, c) _
              refine tt_k 2 (S' := (41, [some (.inr (.inl 27)), some (.inl a_), some (.inl x), some (.inl y)], [.inl 1], n, D, s, p, c)) rfl ?_
              exact tt_rtb rfl rfl (by omega) ⟨1, rfl, rfl, by omega, by show 1 = 1 ↔ ((0 ≤ a_ ∧ a_ < s 2702) ∧ (0 ≤ x ∧ x < s 2700) ∧ (0 ≤ y ∧ y < s 2701)); omega⟩
set_option maxRecDepth 100000 in
set_option maxHeartbeats 4000000 in
theorem g_index27 {g : Nat → Int} {Zi : Nat → Option (Nat × (Nat → Int))} {d n q : Nat} {D : Nat → Nat × Nat} {s : Nat → Int} {p : Nat → Nat} {c : Nat → Nat → Int} (hd : 0 ≤ d) (hz : zk Zi) (hq : q + 0 ≤ 400000) (hD : wd n p) (hS : bS s) (hC : bC D c) (hW : wp q g n D p s) (a_ : Int) (x : Int) (y : Int) (b_a_ : 0 ≤ a_ ∧ a_ ≤ 2) (b_x : 0 ≤ x ∧ x ≤ 63) (b_y : 0 ≤ y ∧ y ≤ 63) (hp0 : a_ < s 2702 ∧ x < s 2700 ∧ y < s 2701) : tt Zi d 34 (0, [some (.inr (.inl 27)), some (.inl a_), some (.inl x), some (.inl y)], [], n, D, s, p, c) (fun R H => ∃ (r : Int), R = .inl (some (.inl r)) ∧ H = (n, D, s, p, c) ∧ (0 ≤ r ∧ r ≤ 12287) ∧ (r = (a_ * s 2701 + y) * s 2700 + x) ∧ (r + s 2700 - x ≤ s 2700 * s 2701 * s 2702)) := by
  have b1 : 0 ≤ (s 2700) ∧ (s 2700) ≤ 64 := hS 2700
  have b2 : 0 ≤ (s 2701) ∧ (s 2701) ≤ 64 := hS 2701
  have b3 : 0 ≤ (s 2702) ∧ (s 2702) ≤ 3 := hS 2702
  have hix := ix_bd (a := a_) (h := s 2701) (y := y) (w := s 2700) (x := x) (pl := s 2702) (by omega) (by omega) (by omega) (by omega) (by omega) (by omega) (by omega) (by omega) (by omega)
  refine tt_k 11 (S' := (15, [some (.inr (.inl 27)), some (.inl a_), some (.inl x), some (.inl y)], [.inl (((((a_ * (s 2701)) + y) * (s 2700)) + x))], n, D, s, p, c)) rfl ?_
  have m4 := mul_bd (e := a_) (st := (s 2701)) (a := 2) (b := 64) (by omega) (by omega) (by omega) (by omega) (by omega)
  have m5 := mul_bd (e := ((a_ * (s 2701)) + y)) (st := (s 2700)) (a := 191) (b := 64) (by omega) (by omega) (by omega) (by omega) (by omega)
  exact tt_rti rfl rfl ⟨((((a_ * (s 2701)) + y) * (s 2700)) + x), rfl, rfl, by omega, rfl, by show (((((a_ * (s 2701)) + y) * (s 2700)) + x)) + s 2700 - x ≤ s 2700 * s 2701 * s 2702; omega⟩
set_option maxRecDepth 100000 in
set_option maxHeartbeats 4000000 in
theorem g_greatest1 {g : Nat → Int} {Zi : Nat → Option (Nat × (Nat → Int))} {d n q : Nat} {D : Nat → Nat × Nat} {s : Nat → Int} {p : Nat → Nat} {c : Nat → Nat → Int} (hd : 0 ≤ d) (hz : zk Zi) (hq : q + 0 ≤ 400000) (hD : wd n p) (hS : bS s) (hC : bC D c) (hW : wp q g n D p s)  : tt Zi d 98 (0, [some (.inr (.inl 1))], [], n, D, s, p, c) (fun R H => ∃ (r : Int), R = .inl (some (.inl r)) ∧ H = (n, D, s, p, c) ∧ (3 ≤ r ∧ r ≤ 65535) ∧ (r = mi_shl 1 (s 103) - 1)) := by
  have b1 : 2 ≤ (s 103) ∧ (s 103) ≤ 16 := hS 103
  have e2 : 4 ≤ (mi_shl 1 (s 103)) ∧ (mi_shl 1 (s 103)) ≤ 65536 := mi_shl1b 2 16 (by omega) (by omega) (by decide)
  refine tt_k 6 (S' := (8, [some (.inr (.inl 1))], [.inl (((mi_shl 1 (s 103)) - 1))], n, D, s, p, c)) rfl ?_
  exact tt_rti rfl rfl ⟨((mi_shl 1 (s 103)) - 1), rfl, rfl, by omega, by show (((mi_shl 1 (s 103)) - 1)) = mi_shl 1 (s 103) - 1; omega⟩
set_option maxRecDepth 100000 in
set_option maxHeartbeats 4000000 in
theorem g_plain {g : Nat → Int} {Zi : Nat → Option (Nat × (Nat → Int))} {d n q : Nat} {D : Nat → Nat × Nat} {s : Nat → Int} {p : Nat → Nat} {c : Nat → Nat → Int} (hd : 0 ≤ d) (hz : zk Zi) (hq : q + 0 ≤ 400000) (hD : wd n p) (hS : bS s) (hC : bC D c) (hW : wp q g n D p s) (i : Int) (least : Int) (b_i : 0 ≤ i ∧ i ≤ 2) (b_least : -2147483648 ≤ least ∧ least ≤ 2147483647) : tt Zi d 29 (0, [some (.inr (.inl 8)), some (.inl i), some (.inl least), none, none], [], n, D, s, p, c) (fun R H => ∃ (r : Int), R = .inl (some (.inl r)) ∧ H = (n, D, s, p, c) ∧ (-2147483648 ≤ r ∧ r ≤ 2147483647)) := by
  refine tt_k 3 (S' := (7, [some (.inr (.inl 8)), some (.inl i), some (.inl least), none, none], [.inl 128, .inl (s 800)], n, D, s, p, c)) rfl ?_
  have b1 : 0 ≤ (s 800) ∧ (s 800) ≤ 65535 := hS 800
  refine tb_lt (x := (s 800)) (y := 128) rfl rfl (by omega) (fun h2 => ?_) (fun h2 => ?_)
  · show tt Zi d 29 (65, [some (.inr (.inl 8)), some (.inl i), some (.inl least), none, none], [], n, D, s, p, c) _
    refine tt_k 5 (S' := (74, [some (.inr (.inl 8)), some (.inl i), some (.inl least), none, none], [.inl ((s 800) + 1), .inl 256], n, D, s, p, c)) rfl ?_
    refine tt_dvp (x := 256) (y := ((s 800) + 1)) rfl (by omega) ?_
    show tt Zi d 29 (75, [some (.inr (.inl 8)), some (.inl i), some (.inl least), none, none], [.inl ((256 / ((s 800) + 1)))], n, D, s, p, c) _
    have b3 : 0 ≤ (256 / ((s 800) + 1)) ∧ (256 / ((s 800) + 1)) ≤ 256 := td_le (by omega) (by omega)
    have b4 : 1 ≤ (256 / ((s 800) + 1)) := dv_ge1 (by omega) (by omega)
    refine tt_k 3 (S' := (81, [some (.inr (.inl 8)), some (.inl i), some (.inl least), none, some (.inl ((256 / ((s 800) + 1))))], [.inl i, .inr (.inl (1000000 + 1))], n, D, s, p, c)) rfl ?_
    obtain ⟨f7, hz8, hz8b⟩ := hz.2.1
    refine tt_stat (j := 1) (i := i) rfl hz8 (by omega) ?_
    show tt Zi d 29 (82, [some (.inr (.inl 8)), some (.inl i), some (.inl least), none, some (.inl ((256 / ((s 800) + 1))))], [.inl (f7 (i).toNat)], n, D, s, p, c) _
    generalize hvv5 : f7 (i).toNat = v5
    have b6 : 0 ≤ v5 ∧ v5 ≤ 100 := by rw [← hvv5]; exact hz8b _
    show tt Zi d 29 (82, [some (.inr (.inl 8)), some (.inl i), some (.inl least), none, some (.inl ((256 / ((s 800) + 1))))], [.inl v5], n, D, s, p, c) _
    refine tt_k 2 (S' := (86, [some (.inr (.inl 8)), some (.inl i), some (.inl least), none, some (.inl ((256 / ((s 800) + 1))))], [.inl i, .inr (.inl (1000000 + 0)), .inl v5], n, D, s, p, c)) rfl ?_
    obtain ⟨f11, hz12, hz12b⟩ := hz.1
    refine tt_stat (j := 0) (i := i) rfl hz12 (by omega) ?_
    show tt Zi d 29 (87, [some (.inr (.inl 8)), some (.inl i), some (.inl least), none, some (.inl ((256 / ((s 800) + 1))))], [.inl (f11 (i).toNat), .inl v5], n, D, s, p, c) _
    generalize hvv9 : f11 (i).toNat = v9
    have b10 : 0 ≤ v9 ∧ v9 ≤ 100 := by rw [← hvv9]; exact hz12b _
    show tt Zi d 29 (87, [some (.inr (.inl 8)), some (.inl i), some (.inl least), none, some (.inl ((256 / ((s 800) + 1))))], [.inl v9, .inl v5], n, D, s, p, c) _
    refine tt_k 1 (S' := (89, [some (.inr (.inl 8)), some (.inl i), some (.inl least), none, some (.inl ((256 / ((s 800) + 1))))], [.inl ((256 / ((s 800) + 1))), .inl v9, .inl v5], n, D, s, p, c)) rfl ?_
    refine tt_dvp (x := v9) (y := (256 / ((s 800) + 1))) rfl (by omega) ?_
    show tt Zi d 29 (90, [some (.inr (.inl 8)), some (.inl i), some (.inl least), none, some (.inl ((256 / ((s 800) + 1))))], [.inl ((v9 / (256 / ((s 800) + 1)))), .inl v5], n, D, s, p, c) _
    have b13 : 0 ≤ (v9 / (256 / ((s 800) + 1))) ∧ (v9 / (256 / ((s 800) + 1))) ≤ v9 := td_le (by omega) (by omega)
    refine tt_k 2 (S' := (94, [some (.inr (.inl 8)), some (.inl i), some (.inl least), none, some (.inl ((256 / ((s 800) + 1))))], [.inl i, .inr (.inl (1000000 + 2)), .inl ((v9 / (256 / ((s 800) + 1)))), .inl v5], n, D, s, p, c)) rfl ?_
    obtain ⟨f16, hz17, hz17b⟩ := hz.2.2.1
    refine tt_stat (j := 2) (i := i) rfl hz17 (by omega) ?_
    show tt Zi d 29 (95, [some (.inr (.inl 8)), some (.inl i), some (.inl least), none, some (.inl ((256 / ((s 800) + 1))))], [.inl (f16 (i).toNat), .inl ((v9 / (256 / ((s 800) + 1)))), .inl v5], n, D, s, p, c) _
    generalize hvv14 : f16 (i).toNat = v14
    have b15 : 0 ≤ v14 ∧ v14 ≤ 100 := by rw [← hvv14]; exact hz17b _
    show tt Zi d 29 (95, [some (.inr (.inl 8)), some (.inl i), some (.inl least), none, some (.inl ((256 / ((s 800) + 1))))], [.inl v14, .inl ((v9 / (256 / ((s 800) + 1)))), .inl v5], n, D, s, p, c) _
    refine tt_k 4 (S' := (101, [some (.inr (.inl 8)), some (.inl i), some (.inl least), none, some (.inl ((256 / ((s 800) + 1))))], [.inl (((v9 / (256 / ((s 800) + 1))) + (v14 * (s 801)))), .inl v5], n, D, s, p, c)) rfl ?_
    have b19 : -2147483648 ≤ (s 801) ∧ (s 801) ≤ 2147483647 := hS 801
    refine tt_wm (x := ((v9 / (256 / ((s 800) + 1))) + (v14 * (s 801)))) ?_
    intro v18 b20 w21
    show tt Zi d 29 (101, [some (.inr (.inl 8)), some (.inl i), some (.inl least), none, some (.inl ((256 / ((s 800) + 1))))], [.inl v18, .inl v5], n, D, s, p, c) _
    refine tt_max (k := 0) (x := v5) (y := v18) rfl rfl (Nat.le_of_ble_eq_true rfl) (by omega) ?_
    refine tt_k 3 (S' := (107, [some (.inr (.inl 8)), some (.inl i), some (.inl least), some (.inl (max v5 v18)), some (.inl ((256 / ((s 800) + 1))))], [.inl least, .inl (max v5 v18)], n, D, s, p, c)) rfl ?_
    refine tb_lt (x := (max v5 v18)) (y := least) rfl rfl (by omega) (fun h22 => ?_) (fun h22 => ?_)
    · show tt Zi d 29 (118, [some (.inr (.inl 8)), some (.inl i), some (.inl least), some (.inl (max v5 v18)), some (.inl ((256 / ((s 800) + 1))))], [], n, D, s, p, c) _
      refine tt_k 2 (S' := (123, [some (.inr (.inl 8)), some (.inl i), some (.inl least), some (.inl (max v5 v18)), some (.inl ((256 / ((s 800) + 1))))], [.inl least], n, D, s, p, c)) rfl ?_
      refine tt_wm (x := least) ?_
      intro v23 b24 w25
      show tt Zi d 29 (123, [some (.inr (.inl 8)), some (.inl i), some (.inl least), some (.inl (max v5 v18)), some (.inl ((256 / ((s 800) + 1))))], [.inl v23], n, D, s, p, c) _
      exact tt_rti rfl rfl ⟨v23, rfl, rfl, by omega⟩
    · show tt Zi d 29 (110, [some (.inr (.inl 8)), some (.inl i), some (.inl least), some (.inl (max v5 v18)), some (.inl ((256 / ((s 800) + 1))))], [], n, D, s, p, c) _
      refine tt_k 3 (S' := (115, [some (.inr (.inl 8)), some (.inl i), some (.inl least), some (.inl (max v5 v18)), some (.inl ((256 / ((s 800) + 1))))], [.inl (s 800), .inl (max v5 v18)], n, D, s, p, c)) rfl ?_
      refine tb_le (x := (max v5 v18)) (y := (s 800)) rfl rfl (by omega) (fun h26 => ?_) (fun h26 => ?_)
      · show tt Zi d 29 (122, [some (.inr (.inl 8)), some (.inl i), some (.inl least), some (.inl (max v5 v18)), some (.inl ((256 / ((s 800) + 1))))], [], n, D, s, p, c) _
        refine tt_k 1 (S' := (123, [some (.inr (.inl 8)), some (.inl i), some (.inl least), some (.inl (max v5 v18)), some (.inl ((256 / ((s 800) + 1))))], [.inl (max v5 v18)], n, D, s, p, c)) rfl ?_
        refine tt_wm (x := (max v5 v18)) ?_
        intro v27 b28 w29
        show tt Zi d 29 (123, [some (.inr (.inl 8)), some (.inl i), some (.inl least), some (.inl (max v5 v18)), some (.inl ((256 / ((s 800) + 1))))], [.inl v27], n, D, s, p, c) _
        exact tt_rti rfl rfl ⟨v27, rfl, rfl, by omega⟩
      · show tt Zi d 29 (118, [some (.inr (.inl 8)), some (.inl i), some (.inl least), some (.inl (max v5 v18)), some (.inl ((256 / ((s 800) + 1))))], [], n, D, s, p, c) _
        refine tt_k 2 (S' := (123, [some (.inr (.inl 8)), some (.inl i), some (.inl least), some (.inl (max v5 v18)), some (.inl ((256 / ((s 800) + 1))))], [.inl least], n, D, s, p, c)) rfl ?_
        refine tt_wm (x := least) ?_
        intro v30 b31 w32
        show tt Zi d 29 (123, [some (.inr (.inl 8)), some (.inl i), some (.inl least), some (.inl (max v5 v18)), some (.inl ((256 / ((s 800) + 1))))], [.inl v30], n, D, s, p, c) _
        exact tt_rti rfl rfl ⟨v30, rfl, rfl, by omega⟩
  · show tt Zi d 29 (10, [some (.inr (.inl 8)), some (.inl i), some (.inl least), none, none], [], n, D, s, p, c) _
    refine tt_k 3 (S' := (17, [some (.inr (.inl 8)), some (.inl i), some (.inl least), none, none], [.inl 4095, .inl (s 800)], n, D, s, p, c)) rfl ?_
    refine tt_min (k := 0) (x := (s 800)) (y := 4095) rfl rfl (Nat.le_of_ble_eq_true rfl) (by omega) ?_
    refine tt_k 3 (S' := (27, [some (.inr (.inl 8)), some (.inl i), some (.inl least), none, none], [.inl 256, .inl (((min (s 800) 4095) + 128))], n, D, s, p, c)) rfl ?_
    refine tt_dvp (x := ((min (s 800) 4095) + 128)) (y := 256) rfl (by omega) ?_
    show tt Zi d 29 (28, [some (.inr (.inl 8)), some (.inl i), some (.inl least), none, none], [.inl ((((min (s 800) 4095) + 128) / 256))], n, D, s, p, c) _
    refine tt_k 4 (S' := (36, [some (.inr (.inl 8)), some (.inl i), some (.inl least), none, some (.inl ((((min (s 800) 4095) + 128) / 256)))], [.inl i, .inr (.inl (1000000 + 0)), .inl ((((min (s 800) 4095) + 128) / 256))], n, D, s, p, c)) rfl ?_
    obtain ⟨f35, hz36, hz36b⟩ := hz.1
    refine tt_stat (j := 0) (i := i) rfl hz36 (by omega) ?_
    show tt Zi d 29 (37, [some (.inr (.inl 8)), some (.inl i), some (.inl least), none, some (.inl ((((min (s 800) 4095) + 128) / 256)))], [.inl (f35 (i).toNat), .inl ((((min (s 800) 4095) + 128) / 256))], n, D, s, p, c) _
    generalize hvv33 : f35 (i).toNat = v33
    have b34 : 0 ≤ v33 ∧ v33 ≤ 100 := by rw [← hvv33]; exact hz36b _
    show tt Zi d 29 (37, [some (.inr (.inl 8)), some (.inl i), some (.inl least), none, some (.inl ((((min (s 800) 4095) + 128) / 256)))], [.inl v33, .inl ((((min (s 800) 4095) + 128) / 256))], n, D, s, p, c) _
    refine tt_k 2 (S' := (41, [some (.inr (.inl 8)), some (.inl i), some (.inl least), none, some (.inl ((((min (s 800) 4095) + 128) / 256)))], [.inl i, .inr (.inl (1000000 + 1)), .inl v33, .inl ((((min (s 800) 4095) + 128) / 256))], n, D, s, p, c)) rfl ?_
    obtain ⟨f39, hz40, hz40b⟩ := hz.2.1
    refine tt_stat (j := 1) (i := i) rfl hz40 (by omega) ?_
    show tt Zi d 29 (42, [some (.inr (.inl 8)), some (.inl i), some (.inl least), none, some (.inl ((((min (s 800) 4095) + 128) / 256)))], [.inl (f39 (i).toNat), .inl v33, .inl ((((min (s 800) 4095) + 128) / 256))], n, D, s, p, c) _
    generalize hvv37 : f39 (i).toNat = v37
    have b38 : 0 ≤ v37 ∧ v37 ≤ 100 := by rw [← hvv37]; exact hz40b _
    show tt Zi d 29 (42, [some (.inr (.inl 8)), some (.inl i), some (.inl least), none, some (.inl ((((min (s 800) 4095) + 128) / 256)))], [.inl v37, .inl v33, .inl ((((min (s 800) 4095) + 128) / 256))], n, D, s, p, c) _
    refine tt_k 4 (S' := (48, [some (.inr (.inl 8)), some (.inl i), some (.inl least), none, some (.inl ((((min (s 800) 4095) + 128) / 256)))], [.inl i, .inr (.inl (1000000 + 1)), .inl (((((min (s 800) 4095) + 128) / 256) * (v33 - v37)))], n, D, s, p, c)) rfl ?_
    obtain ⟨f43, hz44, hz44b⟩ := hz.2.1
    refine tt_stat (j := 1) (i := i) rfl hz44 (by omega) ?_
    show tt Zi d 29 (49, [some (.inr (.inl 8)), some (.inl i), some (.inl least), none, some (.inl ((((min (s 800) 4095) + 128) / 256)))], [.inl (f43 (i).toNat), .inl (((((min (s 800) 4095) + 128) / 256) * (v33 - v37)))], n, D, s, p, c) _
    generalize hvv41 : f43 (i).toNat = v41
    have b42 : 0 ≤ v41 ∧ v41 ≤ 100 := by rw [← hvv41]; exact hz44b _
    show tt Zi d 29 (49, [some (.inr (.inl 8)), some (.inl i), some (.inl least), none, some (.inl ((((min (s 800) 4095) + 128) / 256)))], [.inl v41, .inl (((((min (s 800) 4095) + 128) / 256) * (v33 - v37)))], n, D, s, p, c) _
    refine tt_k 3 (S' := (54, [some (.inr (.inl 8)), some (.inl i), some (.inl least), none, some (.inl ((((min (s 800) 4095) + 128) / 256)))], [.inl i, .inr (.inl (1000000 + 2)), .inl ((((((min (s 800) 4095) + 128) / 256) * (v33 - v37)) + v41))], n, D, s, p, c)) rfl ?_
    obtain ⟨f47, hz48, hz48b⟩ := hz.2.2.1
    refine tt_stat (j := 2) (i := i) rfl hz48 (by omega) ?_
    show tt Zi d 29 (55, [some (.inr (.inl 8)), some (.inl i), some (.inl least), none, some (.inl ((((min (s 800) 4095) + 128) / 256)))], [.inl (f47 (i).toNat), .inl ((((((min (s 800) 4095) + 128) / 256) * (v33 - v37)) + v41))], n, D, s, p, c) _
    generalize hvv45 : f47 (i).toNat = v45
    have b46 : 0 ≤ v45 ∧ v45 ≤ 100 := by rw [← hvv45]; exact hz48b _
    show tt Zi d 29 (55, [some (.inr (.inl 8)), some (.inl i), some (.inl least), none, some (.inl ((((min (s 800) 4095) + 128) / 256)))], [.inl v45, .inl ((((((min (s 800) 4095) + 128) / 256) * (v33 - v37)) + v41))], n, D, s, p, c) _
    refine tt_k 4 (S' := (61, [some (.inr (.inl 8)), some (.inl i), some (.inl least), none, some (.inl ((((min (s 800) 4095) + 128) / 256)))], [.inl (((((((min (s 800) 4095) + 128) / 256) * (v33 - v37)) + v41) + (v45 * (s 801))))], n, D, s, p, c)) rfl ?_
    have b50 : -2147483648 ≤ (s 801) ∧ (s 801) ≤ 2147483647 := hS 801
    refine tt_wm (x := ((((((min (s 800) 4095) + 128) / 256) * (v33 - v37)) + v41) + (v45 * (s 801)))) ?_
    intro v49 b51 w52
    show tt Zi d 29 (61, [some (.inr (.inl 8)), some (.inl i), some (.inl least), none, some (.inl ((((min (s 800) 4095) + 128) / 256)))], [.inl v49], n, D, s, p, c) _
    refine tt_k 4 (S' := (107, [some (.inr (.inl 8)), some (.inl i), some (.inl least), some (.inl v49), some (.inl ((((min (s 800) 4095) + 128) / 256)))], [.inl least, .inl v49], n, D, s, p, c)) rfl ?_
    refine tb_lt (x := v49) (y := least) rfl rfl (by omega) (fun h53 => ?_) (fun h53 => ?_)
    · show tt Zi d 29 (118, [some (.inr (.inl 8)), some (.inl i), some (.inl least), some (.inl v49), some (.inl ((((min (s 800) 4095) + 128) / 256)))], [], n, D, s, p, c) _
      refine tt_k 2 (S' := (123, [some (.inr (.inl 8)), some (.inl i), some (.inl least), some (.inl v49), some (.inl ((((min (s 800) 4095) + 128) / 256)))], [.inl least], n, D, s, p, c)) rfl ?_
      refine tt_wm (x := least) ?_
      intro v54 b55 w56
      show tt Zi d 29 (123, [some (.inr (.inl 8)), some (.inl i), some (.inl least), some (.inl v49), some (.inl ((((min (s 800) 4095) + 128) / 256)))], [.inl v54], n, D, s, p, c) _
      exact tt_rti rfl rfl ⟨v54, rfl, rfl, by omega⟩
    · show tt Zi d 29 (110, [some (.inr (.inl 8)), some (.inl i), some (.inl least), some (.inl v49), some (.inl ((((min (s 800) 4095) + 128) / 256)))], [], n, D, s, p, c) _
      refine tt_k 3 (S' := (115, [some (.inr (.inl 8)), some (.inl i), some (.inl least), some (.inl v49), some (.inl ((((min (s 800) 4095) + 128) / 256)))], [.inl (s 800), .inl v49], n, D, s, p, c)) rfl ?_
      refine tb_le (x := v49) (y := (s 800)) rfl rfl (by omega) (fun h57 => ?_) (fun h57 => ?_)
      · show tt Zi d 29 (122, [some (.inr (.inl 8)), some (.inl i), some (.inl least), some (.inl v49), some (.inl ((((min (s 800) 4095) + 128) / 256)))], [], n, D, s, p, c) _
        refine tt_k 1 (S' := (123, [some (.inr (.inl 8)), some (.inl i), some (.inl least), some (.inl v49), some (.inl ((((min (s 800) 4095) + 128) / 256)))], [.inl v49], n, D, s, p, c)) rfl ?_
        refine tt_wm (x := v49) ?_
        intro v58 b59 w60
        show tt Zi d 29 (123, [some (.inr (.inl 8)), some (.inl i), some (.inl least), some (.inl v49), some (.inl ((((min (s 800) 4095) + 128) / 256)))], [.inl v58], n, D, s, p, c) _
        exact tt_rti rfl rfl ⟨v58, rfl, rfl, by omega⟩
      · show tt Zi d 29 (118, [some (.inr (.inl 8)), some (.inl i), some (.inl least), some (.inl v49), some (.inl ((((min (s 800) 4095) + 128) / 256)))], [], n, D, s, p, c) _
        refine tt_k 2 (S' := (123, [some (.inr (.inl 8)), some (.inl i), some (.inl least), some (.inl v49), some (.inl ((((min (s 800) 4095) + 128) / 256)))], [.inl least], n, D, s, p, c)) rfl ?_
        refine tt_wm (x := least) ?_
        intro v61 b62 w63
        show tt Zi d 29 (123, [some (.inr (.inl 8)), some (.inl i), some (.inl least), some (.inl v49), some (.inl ((((min (s 800) 4095) + 128) / 256)))], [.inl v61], n, D, s, p, c) _
        exact tt_rti rfl rfl ⟨v61, rfl, rfl, by omega⟩
set_option maxRecDepth 100000 in
set_option maxHeartbeats 4000000 in
theorem g_bitsFor_L2 {g : Nat → Int} {Zi : Nat → Option (Nat × (Nat → Int))} {d n q : Nat} {D : Nat → Nat × Nat} {s : Nat → Int} {p : Nat → Nat} {c : Nat → Nat → Int}  {Q : mi_Rs → mi_H → Prop} (hd : 0 ≤ d) (hz : zk Zi) (hq : q + 0 ≤ 400001) (hD : wd n p) (hS : bS s) (hC : bC D c) (hW : wp q g n D p s) (v : Int) (b_v : -2147483648 ≤ v ∧ v ≤ 2147483647)
  (hK : ∀ (k : Int) (b_k : 0 ≤ k ∧ k ≤ 30) (i0 : k = 0 ∨ 2 ^ (k - 1).toNat < v), (True) → tt Zi d 30 (21, [some (.inl v), some (.inl k)], [], n, D, s, p, c) Q) :
  ∀ (m : Nat) (k : Int) (b_k : 0 ≤ k ∧ k ≤ 30) (i0 : k = 0 ∨ 2 ^ (k - 1).toNat < v), (30 - k).toNat < m → tt Zi d 30 (2, [some (.inl v), some (.inl k)], [], n, D, s, p, c) Q := by
  intro m
  induction m with
  | zero => intro k b_k i0 hm; exact absurd hm (by omega)
  | succ m ih =>
    intro k b_k i0 hm
    refine tt_k 2 (S' := (5, [some (.inl v), some (.inl k)], [.inl 30, .inl k], n, D, s, p, c)) rfl ?_
    refine tb_ge (x := k) (y := 30) rfl rfl (by omega) (fun h1 => ?_) (fun h1 => ?_)
    · show tt Zi d 30 (21, [some (.inl v), some (.inl k)], [], n, D, s, p, c) _
      exact hK k (by omega) i0 trivial
    · show tt Zi d 30 (8, [some (.inl v), some (.inl k)], [], n, D, s, p, c) _
      refine tt_k 4 (S' := (12, [some (.inl v), some (.inl k)], [.inl v, .inl (mi_shl 1 k)], n, D, s, p, c)) rfl ?_
      have e2 : 1 ≤ (mi_shl 1 k) ∧ (mi_shl 1 k) ≤ 536870912 := mi_shl1b 0 29 (by omega) (by omega) (by decide)
      refine tb_ge (x := (mi_shl 1 k)) (y := v) rfl rfl (by omega) (fun h3 => ?_) (fun h3 => ?_)
      · show tt Zi d 30 (21, [some (.inl v), some (.inl k)], [], n, D, s, p, c) _
        exact hK k (by omega) i0 trivial
      · show tt Zi d 30 (15, [some (.inl v), some (.inl k)], [], n, D, s, p, c) _
        refine tt_k 2 (S' := (2, [some (.inl v), some (.inl (k + 1))], [], n, D, s, p, c)) rfl ?_
        have hsh := mi_shl1i (k := k) (by omega) (by omega)
        exact ih (k + 1) (by omega) (Or.inr (by rw [Int.add_sub_cancel]; omega)) (show (30 - (k + 1)).toNat < m by omega)
set_option maxRecDepth 100000 in
set_option maxHeartbeats 4000000 in
theorem g_bitsFor {g : Nat → Int} {Zi : Nat → Option (Nat × (Nat → Int))} {d n q : Nat} {D : Nat → Nat × Nat} {s : Nat → Int} {p : Nat → Nat} {c : Nat → Nat → Int} (hd : 0 ≤ d) (hz : zk Zi) (hq : q + 0 ≤ 400000) (hD : wd n p) (hS : bS s) (hC : bC D c) (hW : wp q g n D p s) (v : Int) (b_v : -2147483648 ≤ v ∧ v ≤ 2147483647) : tt Zi d 30 (0, [some (.inl v), none], [], n, D, s, p, c) (fun R H => ∃ (r : Int), R = .inl (some (.inl r)) ∧ H = (n, D, s, p, c) ∧ (0 ≤ r ∧ r ≤ 30) ∧ (v ≤ 65536 → r ≤ 16)) := by
  refine tt_k 2 (S' := (2, [some (.inl v), some (.inl 0)], [], n, D, s, p, c)) rfl ?_
  refine g_bitsFor_L2 (Zi := Zi) (q := q) (n := n) (D := D) (s := s) (p := p) (c := c) hd hz (by omega) hD hS hC hW  v (by omega)   ?_ _ 0 (by omega) (Or.inl rfl) (Nat.lt_succ_self _)
  intro x1 b2 i3 hx4
  show tt Zi d 30 (21, [some (.inl v), some (.inl x1)], [], n, D, s, p, c) _
  replace i3 : x1 = 0 ∨ 2 ^ (x1 - 1).toNat < v := i3
  refine tt_k 1 (S' := (22, [some (.inl v), some (.inl x1)], [.inl x1], n, D, s, p, c)) rfl ?_
  exact tt_rti rfl rfl ⟨x1, rfl, rfl, by omega, by show v ≤ 65536 → x1 ≤ 16; intro hv; exact pw_16b (by omega) i3 hv⟩
set_option maxRecDepth 100000 in
set_option maxHeartbeats 4000000 in
theorem g_grade {g : Nat → Int} {Zi : Nat → Option (Nat × (Nat → Int))} {d n q : Nat} {D : Nat → Nat × Nat} {s : Nat → Int} {p : Nat → Nat} {c : Nat → Nat → Int} (hd : 0 ≤ d) (hz : zk Zi) (hq : q + 0 ≤ 400000) (hD : wd n p) (hS : bS s) (hC : bC D c) (hW : wp q g n D p s) (v : Int) (b_v : -65535 ≤ v ∧ v ≤ 65535) : tt Zi d 37 (0, [some (.inr (.inl 8)), some (.inl v), none, none], [], n, D, s, p, c) (fun R H => ∃ (r : Int), R = .inl (some (.inl r)) ∧ H = (n, D, s, p, c) ∧ (-4 ≤ r ∧ r ≤ 4)) := by
  refine tt_k 1 (S' := (1, [some (.inr (.inl 8)), some (.inl v), none, none], [.inl v], n, D, s, p, c)) rfl ?_
  refine tt_abs (k := 0) (x := v) rfl rfl (Nat.le_of_ble_eq_true rfl) (by omega) ?_
  show tt Zi d 37 (4, [some (.inr (.inl 8)), some (.inl v), none, none], [.inl (if 0 ≤ v then v else -v)], n, D, s, p, c) _
  refine tt_k 4 (S' := (10, [some (.inr (.inl 8)), some (.inl v), some (.inl (if 0 ≤ v then v else -v)), none], [.inl (s 801), .inl (if 0 ≤ v then v else -v)], n, D, s, p, c)) rfl ?_
  have b1 : -2147483648 ≤ (s 801) ∧ (s 801) ≤ 2147483647 := hS 801
  have K3 : ∀ (j2 : Int) , (0 ≤ j2 ∧ j2 ≤ 4) → (((s 801) < (if 0 ≤ v then v else -v) ∧ (s 802) ≤ (if 0 ≤ v then v else -v) ∧ (s 803) ≤ (if 0 ≤ v then v else -v) ∧ (s 804) ≤ (if 0 ≤ v then v else -v) ∧ j2 = 4) ∨ ((s 801) < (if 0 ≤ v then v else -v) ∧ (s 802) ≤ (if 0 ≤ v then v else -v) ∧ (s 803) ≤ (if 0 ≤ v then v else -v) ∧ (if 0 ≤ v then v else -v) < (s 804) ∧ j2 = 3) ∨ ((s 801) < (if 0 ≤ v then v else -v) ∧ (s 802) ≤ (if 0 ≤ v then v else -v) ∧ (if 0 ≤ v then v else -v) < (s 803) ∧ j2 = 2) ∨ ((s 801) < (if 0 ≤ v then v else -v) ∧ (if 0 ≤ v then v else -v) < (s 802) ∧ j2 = 1) ∨ ((if 0 ≤ v then v else -v) ≤ (s 801) ∧ j2 = 0)) → tt Zi d 37 (54, [some (.inr (.inl 8)), some (.inl v), some (.inl (if 0 ≤ v then v else -v)), none], [.inl j2], n, D, s, p, c) (fun R H => ∃ (r : Int), R = .inl (some (.inl r)) ∧ H = (n, D, s, p, c) ∧ (-4 ≤ r ∧ r ≤ 4)) := by
    intro j2 b5 hj4
    have b6 : -2147483648 ≤ (s 802) ∧ (s 802) ≤ 2147483647 := hS 802
    have b7 : -2147483648 ≤ (s 803) ∧ (s 803) ≤ 2147483647 := hS 803
    have b8 : -2147483648 ≤ (s 804) ∧ (s 804) ≤ 2147483647 := hS 804
    refine tt_k 2 (S' := (56, [some (.inr (.inl 8)), some (.inl v), some (.inl (if 0 ≤ v then v else -v)), some (.inl j2)], [.inl v], n, D, s, p, c)) rfl ?_
    refine tz_ge (x := v) rfl rfl (by omega) (fun h9 => ?_) (fun h9 => ?_)
    · show tt Zi d 37 (64, [some (.inr (.inl 8)), some (.inl v), some (.inl (if 0 ≤ v then v else -v)), some (.inl j2)], [], n, D, s, p, c) _
      refine tt_k 1 (S' := (65, [some (.inr (.inl 8)), some (.inl v), some (.inl (if 0 ≤ v then v else -v)), some (.inl j2)], [.inl j2], n, D, s, p, c)) rfl ?_
      exact tt_rti rfl rfl ⟨j2, rfl, rfl, by omega⟩
    · show tt Zi d 37 (59, [some (.inr (.inl 8)), some (.inl v), some (.inl (if 0 ≤ v then v else -v)), some (.inl j2)], [], n, D, s, p, c) _
      refine tt_k 3 (S' := (65, [some (.inr (.inl 8)), some (.inl v), some (.inl (if 0 ≤ v then v else -v)), some (.inl j2)], [.inl (-j2)], n, D, s, p, c)) rfl ?_
      exact tt_rti rfl rfl ⟨(-j2), rfl, rfl, by omega⟩
  refine tb_gt (x := (if 0 ≤ v then v else -v)) (y := (s 801)) rfl rfl (by omega) (fun h10 => ?_) (fun h10 => ?_)
  · show tt Zi d 37 (17, [some (.inr (.inl 8)), some (.inl v), some (.inl (if 0 ≤ v then v else -v)), none], [], n, D, s, p, c) _
    refine tt_k 3 (S' := (22, [some (.inr (.inl 8)), some (.inl v), some (.inl (if 0 ≤ v then v else -v)), none], [.inl (s 802), .inl (if 0 ≤ v then v else -v)], n, D, s, p, c)) rfl ?_
    have b11 : -2147483648 ≤ (s 802) ∧ (s 802) ≤ 2147483647 := hS 802
    refine tb_ge (x := (if 0 ≤ v then v else -v)) (y := (s 802)) rfl rfl (by omega) (fun h12 => ?_) (fun h12 => ?_)
    · show tt Zi d 37 (29, [some (.inr (.inl 8)), some (.inl v), some (.inl (if 0 ≤ v then v else -v)), none], [], n, D, s, p, c) _
      refine tt_k 3 (S' := (34, [some (.inr (.inl 8)), some (.inl v), some (.inl (if 0 ≤ v then v else -v)), none], [.inl (s 803), .inl (if 0 ≤ v then v else -v)], n, D, s, p, c)) rfl ?_
      have b13 : -2147483648 ≤ (s 803) ∧ (s 803) ≤ 2147483647 := hS 803
      refine tb_ge (x := (if 0 ≤ v then v else -v)) (y := (s 803)) rfl rfl (by omega) (fun h14 => ?_) (fun h14 => ?_)
      · show tt Zi d 37 (41, [some (.inr (.inl 8)), some (.inl v), some (.inl (if 0 ≤ v then v else -v)), none], [], n, D, s, p, c) _
        refine tt_k 3 (S' := (46, [some (.inr (.inl 8)), some (.inl v), some (.inl (if 0 ≤ v then v else -v)), none], [.inl (s 804), .inl (if 0 ≤ v then v else -v)], n, D, s, p, c)) rfl ?_
        have b15 : -2147483648 ≤ (s 804) ∧ (s 804) ≤ 2147483647 := hS 804
        refine tb_ge (x := (if 0 ≤ v then v else -v)) (y := (s 804)) rfl rfl (by omega) (fun h16 => ?_) (fun h16 => ?_)
        · show tt Zi d 37 (53, [some (.inr (.inl 8)), some (.inl v), some (.inl (if 0 ≤ v then v else -v)), none], [], n, D, s, p, c) _
          refine tt_k 1 (S' := (54, [some (.inr (.inl 8)), some (.inl v), some (.inl (if 0 ≤ v then v else -v)), none], [.inl 4], n, D, s, p, c)) rfl ?_
          exact K3 4  (by omega) (Or.inl ⟨h10, h12, h14, h16, rfl⟩)
        · show tt Zi d 37 (49, [some (.inr (.inl 8)), some (.inl v), some (.inl (if 0 ≤ v then v else -v)), none], [], n, D, s, p, c) _
          refine tt_k 2 (S' := (54, [some (.inr (.inl 8)), some (.inl v), some (.inl (if 0 ≤ v then v else -v)), none], [.inl 3], n, D, s, p, c)) rfl ?_
          exact K3 3  (by omega) (Or.inr (Or.inl ⟨h10, h12, h14, h16, rfl⟩))
      · show tt Zi d 37 (37, [some (.inr (.inl 8)), some (.inl v), some (.inl (if 0 ≤ v then v else -v)), none], [], n, D, s, p, c) _
        refine tt_k 2 (S' := (54, [some (.inr (.inl 8)), some (.inl v), some (.inl (if 0 ≤ v then v else -v)), none], [.inl 2], n, D, s, p, c)) rfl ?_
        exact K3 2  (by omega) (Or.inr (Or.inr (Or.inl ⟨h10, h12, h14, rfl⟩)))
    · show tt Zi d 37 (25, [some (.inr (.inl 8)), some (.inl v), some (.inl (if 0 ≤ v then v else -v)), none], [], n, D, s, p, c) _
      refine tt_k 2 (S' := (54, [some (.inr (.inl 8)), some (.inl v), some (.inl (if 0 ≤ v then v else -v)), none], [.inl 1], n, D, s, p, c)) rfl ?_
      exact K3 1  (by omega) (Or.inr (Or.inr (Or.inr (Or.inl ⟨h10, h12, rfl⟩))))
  · show tt Zi d 37 (13, [some (.inr (.inl 8)), some (.inl v), some (.inl (if 0 ≤ v then v else -v)), none], [], n, D, s, p, c) _
    refine tt_k 2 (S' := (54, [some (.inr (.inl 8)), some (.inl v), some (.inl (if 0 ≤ v then v else -v)), none], [.inl 0], n, D, s, p, c)) rfl ?_
    exact K3 0  (by omega) (Or.inr (Or.inr (Or.inr (Or.inr (⟨h10, rfl⟩)))))
set_option maxRecDepth 100000 in
set_option maxHeartbeats 4000000 in
theorem g_within {g : Nat → Int} {Zi : Nat → Option (Nat × (Nat → Int))} {d n q : Nat} {D : Nat → Nat × Nat} {s : Nat → Int} {p : Nat → Nat} {c : Nat → Nat → Int} (hd : 0 ≤ d) (hz : zk Zi) (hq : q + 0 ≤ 400000) (hD : wd n p) (hS : bS s) (hC : bC D c) (hW : wp q g n D p s) (v : Int) (b_v : -2147483648 ≤ v ∧ v ≤ 2147483647) : tt Zi d 40 (0, [some (.inr (.inl 8)), some (.inl v)], [], n, D, s, p, c) (fun R H => ∃ (r : Int), R = .inl (some (.inl r)) ∧ H = (n, D, s, p, c) ∧ (0 ≤ r ∧ r ≤ 65535)) := by
  refine tt_k 4 (S' := (6, [some (.inr (.inl 8)), some (.inl v)], [.inl v, .inl (s 800), .inl 0], n, D, s, p, c)) rfl ?_
  have b1 : 0 ≤ (s 800) ∧ (s 800) ≤ 65535 := hS 800
  refine tt_min (k := 0) (x := (s 800)) (y := v) rfl rfl (Nat.le_of_ble_eq_true rfl) (by omega) ?_
  refine tt_max (k := 0) (x := 0) (y := (min (s 800) v)) rfl rfl (Nat.le_of_ble_eq_true rfl) (by omega) ?_
  exact tt_rti rfl rfl ⟨(max 0 (min (s 800) v)), rfl, rfl, by omega⟩
set_option maxRecDepth 100000 in
set_option maxHeartbeats 4000000 in
theorem g_isError {g : Nat → Int} {Zi : Nat → Option (Nat × (Nat → Int))} {d n q : Nat} {D : Nat → Nat × Nat} {s : Nat → Int} {p : Nat → Nat} {c : Nat → Nat → Int} (hd : 0 ≤ d) (hz : zk Zi) (hq : q + 0 ≤ 400000) (hD : wd n p) (hS : bS s) (hC : bC D c) (hW : wp q g n D p s) (v : Int) (b_v : -2147483648 ≤ v ∧ v ≤ 2147483647) : tt Zi d 60 (0, [some (.inr (.inl 8)), some (.inl v)], [], n, D, s, p, c) (fun R H => ∃ (r : Int), R = .inl (some (.inl r)) ∧ H = (n, D, s, p, c) ∧ (0 ≤ r ∧ r ≤ 1) ∧ (r = 1 → -65536 ≤ v ∧ v ≤ 65536)) := by
  refine tt_k 4 (S' := (6, [some (.inr (.inl 8)), some (.inl v)], [.inl 2, .inl (s 807), .inl v], n, D, s, p, c)) rfl ?_
  have b1 : 0 ≤ (s 807) ∧ (s 807) ≤ 65536 := hS 807
  refine tt_dvp (x := (s 807)) (y := 2) rfl (by omega) ?_
  show tt Zi d 60 (7, [some (.inr (.inl 8)), some (.inl v)], [.inl ((s 807) / 2), .inl v], n, D, s, p, c) _
  refine tt_k 1 (S' := (8, [some (.inr (.inl 8)), some (.inl v)], [.inl ((-((s 807) / 2))), .inl v], n, D, s, p, c)) rfl ?_
  refine tb_lt (x := v) (y := (-((s 807) / 2))) rfl rfl (by omega) (fun h2 => ?_) (fun h2 => ?_)
  · show tt Zi d 60 (27, [some (.inr (.inl 8)), some (.inl v)], [], n, D, s, p, c) _
    refine tt_k 1 (S' := (28, [some (.inr (.inl 8)), some (.inl v)], [.inl 0], n, D, s, p, c)) rfl ?_
    exact tt_rtb rfl rfl (by omega) ⟨0, rfl, rfl, by omega, by show 0 = 1 → -65536 ≤ v ∧ v ≤ 65536; intro hr; omega⟩
  · show tt Zi d 60 (11, [some (.inr (.inl 8)), some (.inl v)], [], n, D, s, p, c) _
    refine tt_k 6 (S' := (19, [some (.inr (.inl 8)), some (.inl v)], [.inl 2, .inl ((s 807) - 1), .inl v], n, D, s, p, c)) rfl ?_
    refine tt_div (x := ((s 807) - 1)) (y := 2) rfl (by omega) ?_
    show tt Zi d 60 (20, [some (.inr (.inl 8)), some (.inl v)], [.inl ((Int.tdiv ((s 807) - 1) 2)), .inl v], n, D, s, p, c) _
    have b3 := tdv_bd (x := ((s 807) - 1)) (y := 2) (a := 65535) (by omega) (by omega) (by omega)
    refine tb_gt (x := v) (y := (Int.tdiv ((s 807) - 1) 2)) rfl rfl (by omega) (fun h4 => ?_) (fun h4 => ?_)
    · show tt Zi d 60 (27, [some (.inr (.inl 8)), some (.inl v)], [], n, D, s, p, c) _
      refine tt_k 1 (S' := (28, [some (.inr (.inl 8)), some (.inl v)], [.inl 0], n, D, s, p, c)) rfl ?_
      exact tt_rtb rfl rfl (by omega) ⟨0, rfl, rfl, by omega, by show 0 = 1 → -65536 ≤ v ∧ v ≤ 65536; intro hr; omega⟩
    · show tt Zi d 60 (23, [some (.inr (.inl 8)), some (.inl v)], [], n, D, s, p, c) _
      refine tt_k 2 (S' := (28, [some (.inr (.inl 8)), some (.inl v)], [.inl 1], n, D, s, p, c)) rfl ?_
      exact tt_rtb rfl rfl (by omega) ⟨1, rfl, rfl, by omega, by show 1 = 1 → -65536 ≤ v ∧ v ≤ 65536; intro hr; omega⟩
set_option maxRecDepth 100000 in
set_option maxHeartbeats 4000000 in
theorem g_rebuilt {g : Nat → Int} {Zi : Nat → Option (Nat × (Nat → Int))} {d n q : Nat} {D : Nat → Nat × Nat} {s : Nat → Int} {p : Nat → Nat} {c : Nat → Nat → Int} (hd : 1 ≤ d) (hz : zk Zi) (hq : q + 2 ≤ 400000) (hD : wd n p) (hS : bS s) (hC : bC D c) (hW : wp q g n D p s) (g_ : Int) (e : Int) (b_g_ : -131070 ≤ g_ ∧ g_ ≤ 196605) (b_e : -2147483648 ≤ e ∧ e ≤ 2147483647) : tt Zi d 51 (0, [some (.inr (.inl 8)), some (.inl g_), some (.inl e), none], [], n, D, s, p, c) (fun R H => ∃ (r : Int), R = .inl (some (.inl r)) ∧ H = (n, D, s, p, c) ∧ (0 ≤ r ∧ r ≤ 65535)) := by
  refine tt_k 6 (S' := (8, [some (.inr (.inl 8)), some (.inl g_), some (.inl e), none], [.inl ((g_ + (e * (s 806))))], n, D, s, p, c)) rfl ?_
  have b2 : 1 ≤ (s 806) ∧ (s 806) ≤ 511 := hS 806
  have m3 := mul_bd (e := e) (st := (s 806)) (a := 2147483648) (b := 511) (by omega) (by omega) (by omega) (by omega) (by omega)
  refine tt_wm (x := (g_ + (e * (s 806)))) ?_
  intro v1 b4 w5
  show tt Zi d 51 (8, [some (.inr (.inl 8)), some (.inl g_), some (.inl e), none], [.inl v1], n, D, s, p, c) _
  refine tt_k 5 (S' := (15, [some (.inr (.inl 8)), some (.inl g_), some (.inl e), some (.inl v1)], [.inl (-(s 801)), .inl v1], n, D, s, p, c)) rfl ?_
  have b7 : -2147483648 ≤ (s 801) ∧ (s 801) ≤ 2147483647 := hS 801
  refine tt_wm (x := (-(s 801))) ?_
  intro v6 b8 w9
  show tt Zi d 51 (15, [some (.inr (.inl 8)), some (.inl g_), some (.inl e), some (.inl v1)], [.inl v6, .inl v1], n, D, s, p, c) _
  have K11 : ∀ (j10 : Int) , (-2147483648 ≤ j10 ∧ j10 ≤ 2147483647) → (True) → tt Zi d 51 (58, [some (.inr (.inl 8)), some (.inl g_), some (.inl e), some (.inl j10)], [], n, D, s, p, c) (fun R H => ∃ (r : Int), R = .inl (some (.inl r)) ∧ H = (n, D, s, p, c) ∧ (0 ≤ r ∧ r ≤ 65535)) := by
    intro j10 b13 hj12
    refine tt_k 2 (S' := (60, [some (.inr (.inl 8)), some (.inl g_), some (.inl e), some (.inl j10)], [.inl j10, .inr (.inl 8)], n, D, s, p, c)) rfl ?_
    refine tt_cl (by omega) rfl (g_within (Zi := Zi) (q := q) (n := n) (D := D) (s := s) (p := p) (c := c) (by omega) hz (by omega) hD hS hC hW j10 (by omega)) ?_
    rintro _ _ ⟨r14, rfl, rfl, b15⟩
    show tt Zi d 51 (63, [some (.inr (.inl 8)), some (.inl g_), some (.inl e), some (.inl j10)], [.inl r14], n, D, s, p, c) _
    exact tt_rti rfl rfl ⟨r14, rfl, rfl, by omega⟩
  refine tb_ge (x := v1) (y := v6) rfl rfl (by omega) (fun h16 => ?_) (fun h16 => ?_)
  · show tt Zi d 51 (33, [some (.inr (.inl 8)), some (.inl g_), some (.inl e), some (.inl v1)], [], n, D, s, p, c) _
    refine tt_k 6 (S' := (43, [some (.inr (.inl 8)), some (.inl g_), some (.inl e), some (.inl v1)], [.inl ((s 800) + (s 801)), .inl v1], n, D, s, p, c)) rfl ?_
    have b18 : 0 ≤ (s 800) ∧ (s 800) ≤ 65535 := hS 800
    refine tt_wm (x := ((s 800) + (s 801))) ?_
    intro v17 b19 w20
    show tt Zi d 51 (43, [some (.inr (.inl 8)), some (.inl g_), some (.inl e), some (.inl v1)], [.inl v17, .inl v1], n, D, s, p, c) _
    refine tb_le (x := v1) (y := v17) rfl rfl (by omega) (fun h21 => ?_) (fun h21 => ?_)
    · show tt Zi d 51 (58, [some (.inr (.inl 8)), some (.inl g_), some (.inl e), some (.inl v1)], [], n, D, s, p, c) _
      exact K11 v1  (by omega) (trivial)
    · show tt Zi d 51 (46, [some (.inr (.inl 8)), some (.inl g_), some (.inl e), some (.inl v1)], [], n, D, s, p, c) _
      refine tt_k 7 (S' := (57, [some (.inr (.inl 8)), some (.inl g_), some (.inl e), some (.inl v1)], [.inl ((v1 - ((s 807) * (s 806))))], n, D, s, p, c)) rfl ?_
      have b23 : 0 ≤ (s 807) ∧ (s 807) ≤ 65536 := hS 807
      have m24 := mul_bd (e := (s 807)) (st := (s 806)) (a := 65536) (b := 511) (by omega) (by omega) (by omega) (by omega) (by omega)
      refine tt_wm (x := (v1 - ((s 807) * (s 806)))) ?_
      intro v22 b25 w26
      show tt Zi d 51 (57, [some (.inr (.inl 8)), some (.inl g_), some (.inl e), some (.inl v1)], [.inl v22], n, D, s, p, c) _
      refine tt_k 1 (S' := (58, [some (.inr (.inl 8)), some (.inl g_), some (.inl e), some (.inl v22)], [], n, D, s, p, c)) rfl ?_
      exact K11 v22  (by omega) (trivial)
  · show tt Zi d 51 (18, [some (.inr (.inl 8)), some (.inl g_), some (.inl e), some (.inl v1)], [], n, D, s, p, c) _
    refine tt_k 7 (S' := (29, [some (.inr (.inl 8)), some (.inl g_), some (.inl e), some (.inl v1)], [.inl ((v1 + ((s 807) * (s 806))))], n, D, s, p, c)) rfl ?_
    have b28 : 0 ≤ (s 807) ∧ (s 807) ≤ 65536 := hS 807
    have m29 := mul_bd (e := (s 807)) (st := (s 806)) (a := 65536) (b := 511) (by omega) (by omega) (by omega) (by omega) (by omega)
    refine tt_wm (x := (v1 + ((s 807) * (s 806)))) ?_
    intro v27 b30 w31
    show tt Zi d 51 (29, [some (.inr (.inl 8)), some (.inl g_), some (.inl e), some (.inl v1)], [.inl v27], n, D, s, p, c) _
    refine tt_k 2 (S' := (58, [some (.inr (.inl 8)), some (.inl g_), some (.inl e), some (.inl v27)], [], n, D, s, p, c)) rfl ?_
    exact K11 v27  (by omega) (trivial)
set_option maxRecDepth 100000 in
set_option maxHeartbeats 4000000 in
theorem g_settle18 {g : Nat → Int} {Zi : Nat → Option (Nat × (Nat → Int))} {d n q : Nat} {D : Nat → Nat × Nat} {s : Nat → Int} {p : Nat → Nat} {c : Nat → Nat → Int} (hd : 1 ≤ d) (hz : zk Zi) (hq : q + 2 ≤ 400000) (hD : wd n p) (hS : bS s) (hC : bC D c) (hW : wp q g n D p s) (bits : Int) (nr : Int) (b_bits : 2 ≤ bits ∧ bits ≤ 16) (b_nr : -2147483648 ≤ nr ∧ nr ≤ 2147483647) : tt Zi d 28 (0, [some (.inr (.inl 8)), some (.inr (.inl 18)), some (.inl bits), some (.inl nr), none, none], [], n, D, s, p, c) (fun R H => ∃ (s' : Nat → Int) (r : Int), R = .inl (some (.inl r)) ∧ H = (n, D, s', p, c) ∧ bS s' ∧ wp q g n D p s' ∧ fr s s' [800, 801, 802, 803, 804, 805, 806, 807, 808, 809] ∧ (0 ≤ r ∧ r ≤ 1) ∧ (r = 1 → 0 ≤ s' 801 ∧ s' 801 ≤ 255)) := by
  have e1 : 4 ≤ (mi_shl 1 bits) ∧ (mi_shl 1 bits) ≤ 65536 := mi_shl1b 2 16 (by omega) (by omega) (by decide)
  refine tt_k 9 (S' := (10, [some (.inr (.inl 8)), some (.inr (.inl 18)), some (.inl bits), some (.inl nr), some (.inl ((mi_shl 1 bits) - 1)), none], [.inl 0, .inr (.inl 18), .inr (.inl 8)], n, D, s, p, c)) rfl ?_
  refine tt_ilb (i := 0) (m := 5) (lo := 0) (hi := 65535) rfl rfl (by omega) hC ⟨rfl, rfl⟩ ?_
  intro v2 b3 hvv2
  show tt Zi d 28 (11, [some (.inr (.inl 8)), some (.inr (.inl 18)), some (.inl bits), some (.inl nr), some (.inl ((mi_shl 1 bits) - 1)), none], [.inl v2, .inr (.inl 8)], n, D, s, p, c) _
  have K5 : ∀ (j4 : Int) , (0 ≤ j4 ∧ j4 ≤ 65535) → (True) → tt Zi d 28 (22, [some (.inr (.inl 8)), some (.inr (.inl 18)), some (.inl bits), some (.inl nr), some (.inl ((mi_shl 1 bits) - 1)), none], [.inl j4, .inr (.inl 8)], n, D, s, p, c) (fun R H => ∃ (s' : Nat → Int) (r : Int), R = .inl (some (.inl r)) ∧ H = (n, D, s', p, c) ∧ bS s' ∧ wp q g n D p s' ∧ fr s s' [800, 801, 802, 803, 804, 805, 806, 807, 808, 809] ∧ (0 ≤ r ∧ r ≤ 1) ∧ (r = 1 → 0 ≤ s' 801 ∧ s' 801 ≤ 255)) := by
    intro j4 b7 hj6
    refine tt_k 7 (S' := (36, [some (.inr (.inl 8)), some (.inr (.inl 18)), some (.inl bits), some (.inl nr), some (.inl ((mi_shl 1 bits) - 1)), none], [.inl ((mi_shl 1 bits) - 1), .inl j4], n, D, (us (us s 800 j4) 801 nr), p, c)) rfl ?_
    refine tb_gt (x := j4) (y := ((mi_shl 1 bits) - 1)) rfl rfl (by omega) (fun h8 => ?_) (fun h8 => ?_)
    · show tt Zi d 28 (69, [some (.inr (.inl 8)), some (.inr (.inl 18)), some (.inl bits), some (.inl nr), some (.inl ((mi_shl 1 bits) - 1)), none], [], n, D, (us (us s 800 j4) 801 nr), p, c) _
      refine tt_k 1 (S' := (70, [some (.inr (.inl 8)), some (.inr (.inl 18)), some (.inl bits), some (.inl nr), some (.inl ((mi_shl 1 bits) - 1)), none], [.inl 0], n, D, (us (us s 800 j4) 801 nr), p, c)) rfl ?_
      exact tt_rtb rfl rfl (by omega) ⟨(us (us s 800 j4) 801 nr), 0, rfl, rfl, (bS_us (bS_us hS (show 0 ≤ j4 ∧ j4 ≤ 65535 by omega)) (show -2147483648 ≤ nr ∧ nr ≤ 2147483647 by omega)), (wp_us (by decide) (wp_us (by decide) hW)), (fr_us (by decide) (fr_us (by decide) fr_rf)), by omega, by show 0 = 1 → 0 ≤ nr ∧ nr ≤ 255; intro hr; omega⟩
    · show tt Zi d 28 (39, [some (.inr (.inl 8)), some (.inr (.inl 18)), some (.inl bits), some (.inl nr), some (.inl ((mi_shl 1 bits) - 1)), none], [], n, D, (us (us s 800 j4) 801 nr), p, c) _
      refine tt_k 2 (S' := (43, [some (.inr (.inl 8)), some (.inr (.inl 18)), some (.inl bits), some (.inl nr), some (.inl ((mi_shl 1 bits) - 1)), none], [.inl nr], n, D, (us (us s 800 j4) 801 nr), p, c)) rfl ?_
      refine tz_lt (x := nr) rfl rfl (by omega) (fun h9 => ?_) (fun h9 => ?_)
      · show tt Zi d 28 (69, [some (.inr (.inl 8)), some (.inr (.inl 18)), some (.inl bits), some (.inl nr), some (.inl ((mi_shl 1 bits) - 1)), none], [], n, D, (us (us s 800 j4) 801 nr), p, c) _
        refine tt_k 1 (S' := (70, [some (.inr (.inl 8)), some (.inr (.inl 18)), some (.inl bits), some (.inl nr), some (.inl ((mi_shl 1 bits) - 1)), none], [.inl 0], n, D, (us (us s 800 j4) 801 nr), p, c)) rfl ?_
        exact tt_rtb rfl rfl (by omega) ⟨(us (us s 800 j4) 801 nr), 0, rfl, rfl, (bS_us (bS_us hS (show 0 ≤ j4 ∧ j4 ≤ 65535 by omega)) (show -2147483648 ≤ nr ∧ nr ≤ 2147483647 by omega)), (wp_us (by decide) (wp_us (by decide) hW)), (fr_us (by decide) (fr_us (by decide) fr_rf)), by omega, by show 0 = 1 → 0 ≤ nr ∧ nr ≤ 255; intro hr; omega⟩
      · show tt Zi d 28 (46, [some (.inr (.inl 8)), some (.inr (.inl 18)), some (.inl bits), some (.inl nr), some (.inl ((mi_shl 1 bits) - 1)), none], [], n, D, (us (us s 800 j4) 801 nr), p, c) _
        refine tt_k 3 (S' := (53, [some (.inr (.inl 8)), some (.inr (.inl 18)), some (.inl bits), some (.inl nr), some (.inl ((mi_shl 1 bits) - 1)), none], [.inl 255, .inl nr], n, D, (us (us s 800 j4) 801 nr), p, c)) rfl ?_
        refine tb_gt (x := nr) (y := 255) rfl rfl (by omega) (fun h10 => ?_) (fun h10 => ?_)
        · show tt Zi d 28 (69, [some (.inr (.inl 8)), some (.inr (.inl 18)), some (.inl bits), some (.inl nr), some (.inl ((mi_shl 1 bits) - 1)), none], [], n, D, (us (us s 800 j4) 801 nr), p, c) _
          refine tt_k 1 (S' := (70, [some (.inr (.inl 8)), some (.inr (.inl 18)), some (.inl bits), some (.inl nr), some (.inl ((mi_shl 1 bits) - 1)), none], [.inl 0], n, D, (us (us s 800 j4) 801 nr), p, c)) rfl ?_
          exact tt_rtb rfl rfl (by omega) ⟨(us (us s 800 j4) 801 nr), 0, rfl, rfl, (bS_us (bS_us hS (show 0 ≤ j4 ∧ j4 ≤ 65535 by omega)) (show -2147483648 ≤ nr ∧ nr ≤ 2147483647 by omega)), (wp_us (by decide) (wp_us (by decide) hW)), (fr_us (by decide) (fr_us (by decide) fr_rf)), by omega, by show 0 = 1 → 0 ≤ nr ∧ nr ≤ 255; intro hr; omega⟩
        · show tt Zi d 28 (56, [some (.inr (.inl 8)), some (.inr (.inl 18)), some (.inl bits), some (.inl nr), some (.inl ((mi_shl 1 bits) - 1)), none], [], n, D, (us (us s 800 j4) 801 nr), p, c) _
          refine tt_k 5 (S' := (65, [some (.inr (.inl 8)), some (.inr (.inl 18)), some (.inl bits), some (.inl nr), some (.inl ((mi_shl 1 bits) - 1)), none], [.inl 2, .inl j4, .inl nr], n, D, (us (us s 800 j4) 801 nr), p, c)) rfl ?_
          refine tt_dvp (x := j4) (y := 2) rfl (by omega) ?_
          show tt Zi d 28 (66, [some (.inr (.inl 8)), some (.inr (.inl 18)), some (.inl bits), some (.inl nr), some (.inl ((mi_shl 1 bits) - 1)), none], [.inl (j4 / 2), .inl nr], n, D, (us (us s 800 j4) 801 nr), p, c) _
          refine tb_le (x := nr) (y := (j4 / 2)) rfl rfl (by omega) (fun h11 => ?_) (fun h11 => ?_)
          · show tt Zi d 28 (71, [some (.inr (.inl 8)), some (.inr (.inl 18)), some (.inl bits), some (.inl nr), some (.inl ((mi_shl 1 bits) - 1)), none], [], n, D, (us (us s 800 j4) 801 nr), p, c) _
            refine tt_k 3 (S' := (74, [some (.inr (.inl 8)), some (.inr (.inl 18)), some (.inl bits), some (.inl nr), some (.inl ((mi_shl 1 bits) - 1)), none], [.inl 1, .inr (.inl 18), .inr (.inl 8)], n, D, (us (us s 800 j4) 801 nr), p, c)) rfl ?_
            refine tt_ilb (i := 1) (m := 5) (lo := 0) (hi := 65535) rfl rfl (by omega) hC ⟨rfl, rfl⟩ ?_
            intro v12 b13 hvv12
            show tt Zi d 28 (75, [some (.inr (.inl 8)), some (.inr (.inl 18)), some (.inl bits), some (.inl nr), some (.inl ((mi_shl 1 bits) - 1)), none], [.inl v12, .inr (.inl 8)], n, D, (us (us s 800 j4) 801 nr), p, c) _
            have K15 : ∀ (j14 : Int) , (-2147483648 ≤ j14 ∧ j14 ≤ 2147483647) → (-2147483648 ≤ j14 ∧ j14 ≤ 2147483647) → (True) → tt Zi d 28 (95, [some (.inr (.inl 8)), some (.inr (.inl 18)), some (.inl bits), some (.inl nr), some (.inl ((mi_shl 1 bits) - 1)), none], [.inl j14, .inr (.inl 8)], n, D, (us (us s 800 j4) 801 nr), p, c) (fun R H => ∃ (s' : Nat → Int) (r : Int), R = .inl (some (.inl r)) ∧ H = (n, D, s', p, c) ∧ bS s' ∧ wp q g n D p s' ∧ fr s s' [800, 801, 802, 803, 804, 805, 806, 807, 808, 809] ∧ (0 ≤ r ∧ r ≤ 1) ∧ (r = 1 → 0 ≤ s' 801 ∧ s' 801 ≤ 255)) := by
              intro j14 b17 b18 hj16
              refine tt_k 4 (S' := (101, [some (.inr (.inl 8)), some (.inr (.inl 18)), some (.inl bits), some (.inl nr), some (.inl ((mi_shl 1 bits) - 1)), none], [.inl 2, .inr (.inl 18), .inr (.inl 8)], n, D, (us (us (us s 800 j4) 801 nr) 802 j14), p, c)) rfl ?_
              refine tt_ilb (i := 2) (m := 5) (lo := 0) (hi := 65535) rfl rfl (by omega) hC ⟨rfl, rfl⟩ ?_
              intro v19 b20 hvv19
              show tt Zi d 28 (102, [some (.inr (.inl 8)), some (.inr (.inl 18)), some (.inl bits), some (.inl nr), some (.inl ((mi_shl 1 bits) - 1)), none], [.inl v19, .inr (.inl 8)], n, D, (us (us (us s 800 j4) 801 nr) 802 j14), p, c) _
              have K22 : ∀ (j21 : Int) , (-2147483648 ≤ j21 ∧ j21 ≤ 2147483647) → (True) → tt Zi d 28 (120, [some (.inr (.inl 8)), some (.inr (.inl 18)), some (.inl bits), some (.inl nr), some (.inl ((mi_shl 1 bits) - 1)), none], [.inl j21, .inr (.inl 8)], n, D, (us (us (us s 800 j4) 801 nr) 802 j14), p, c) (fun R H => ∃ (s' : Nat → Int) (r : Int), R = .inl (some (.inl r)) ∧ H = (n, D, s', p, c) ∧ bS s' ∧ wp q g n D p s' ∧ fr s s' [800, 801, 802, 803, 804, 805, 806, 807, 808, 809] ∧ (0 ≤ r ∧ r ≤ 1) ∧ (r = 1 → 0 ≤ s' 801 ∧ s' 801 ≤ 255)) := by
                intro j21 b24 hj23
                refine tt_k 4 (S' := (126, [some (.inr (.inl 8)), some (.inr (.inl 18)), some (.inl bits), some (.inl nr), some (.inl ((mi_shl 1 bits) - 1)), none], [.inl 3, .inr (.inl 18), .inr (.inl 8)], n, D, (us (us (us (us s 800 j4) 801 nr) 802 j14) 803 j21), p, c)) rfl ?_
                refine tt_ilb (i := 3) (m := 5) (lo := 0) (hi := 65535) rfl rfl (by omega) hC ⟨rfl, rfl⟩ ?_
                intro v25 b26 hvv25
                show tt Zi d 28 (127, [some (.inr (.inl 8)), some (.inr (.inl 18)), some (.inl bits), some (.inl nr), some (.inl ((mi_shl 1 bits) - 1)), none], [.inl v25, .inr (.inl 8)], n, D, (us (us (us (us s 800 j4) 801 nr) 802 j14) 803 j21), p, c) _
                have K28 : ∀ (j27 : Int) , (-2147483648 ≤ j27 ∧ j27 ≤ 2147483647) → (True) → tt Zi d 28 (145, [some (.inr (.inl 8)), some (.inr (.inl 18)), some (.inl bits), some (.inl nr), some (.inl ((mi_shl 1 bits) - 1)), none], [.inl j27, .inr (.inl 8)], n, D, (us (us (us (us s 800 j4) 801 nr) 802 j14) 803 j21), p, c) (fun R H => ∃ (s' : Nat → Int) (r : Int), R = .inl (some (.inl r)) ∧ H = (n, D, s', p, c) ∧ bS s' ∧ wp q g n D p s' ∧ fr s s' [800, 801, 802, 803, 804, 805, 806, 807, 808, 809] ∧ (0 ≤ r ∧ r ≤ 1) ∧ (r = 1 → 0 ≤ s' 801 ∧ s' 801 ≤ 255)) := by
                  intro j27 b30 hj29
                  refine tt_k 4 (S' := (151, [some (.inr (.inl 8)), some (.inr (.inl 18)), some (.inl bits), some (.inl nr), some (.inl ((mi_shl 1 bits) - 1)), none], [.inl 4, .inr (.inl 18), .inr (.inl 8)], n, D, (us (us (us (us (us s 800 j4) 801 nr) 802 j14) 803 j21) 804 j27), p, c)) rfl ?_
                  refine tt_ilb (i := 4) (m := 5) (lo := 0) (hi := 65535) rfl rfl (by omega) hC ⟨rfl, rfl⟩ ?_
                  intro v31 b32 hvv31
                  show tt Zi d 28 (152, [some (.inr (.inl 8)), some (.inr (.inl 18)), some (.inl bits), some (.inl nr), some (.inl ((mi_shl 1 bits) - 1)), none], [.inl v31, .inr (.inl 8)], n, D, (us (us (us (us (us s 800 j4) 801 nr) 802 j14) 803 j21) 804 j27), p, c) _
                  have K34 : ∀ (j33 : Int) , (0 ≤ j33 ∧ j33 ≤ 65535) → (True) → tt Zi d 28 (163, [some (.inr (.inl 8)), some (.inr (.inl 18)), some (.inl bits), some (.inl nr), some (.inl ((mi_shl 1 bits) - 1)), none], [.inl j33, .inr (.inl 8)], n, D, (us (us (us (us (us s 800 j4) 801 nr) 802 j14) 803 j21) 804 j27), p, c) (fun R H => ∃ (s' : Nat → Int) (r : Int), R = .inl (some (.inl r)) ∧ H = (n, D, s', p, c) ∧ bS s' ∧ wp q g n D p s' ∧ fr s s' [800, 801, 802, 803, 804, 805, 806, 807, 808, 809] ∧ (0 ≤ r ∧ r ≤ 1) ∧ (r = 1 → 0 ≤ s' 801 ∧ s' 801 ≤ 255)) := by
                    intro j33 b36 hj35
                    refine tt_k 5 (S' := (174, [some (.inr (.inl 8)), some (.inr (.inl 18)), some (.inl bits), some (.inl nr), some (.inl ((mi_shl 1 bits) - 1)), none], [.inl nr, .inl j14], n, D, (us (us (us (us (us (us s 800 j4) 801 nr) 802 j14) 803 j21) 804 j27) 805 j33), p, c)) rfl ?_
                    refine tb_le (x := j14) (y := nr) rfl rfl (by omega) (fun h37 => ?_) (fun h37 => ?_)
                    · show tt Zi d 28 (210, [some (.inr (.inl 8)), some (.inr (.inl 18)), some (.inl bits), some (.inl nr), some (.inl ((mi_shl 1 bits) - 1)), none], [], n, D, (us (us (us (us (us (us s 800 j4) 801 nr) 802 j14) 803 j21) 804 j27) 805 j33), p, c) _
                      refine tt_k 1 (S' := (211, [some (.inr (.inl 8)), some (.inr (.inl 18)), some (.inl bits), some (.inl nr), some (.inl ((mi_shl 1 bits) - 1)), none], [.inl 0], n, D, (us (us (us (us (us (us s 800 j4) 801 nr) 802 j14) 803 j21) 804 j27) 805 j33), p, c)) rfl ?_
                      exact tt_rtb rfl rfl (by omega) ⟨(us (us (us (us (us (us s 800 j4) 801 nr) 802 j14) 803 j21) 804 j27) 805 j33), 0, rfl, rfl, (bS_us (bS_us (bS_us (bS_us (bS_us (bS_us hS (show 0 ≤ j4 ∧ j4 ≤ 65535 by omega)) (show -2147483648 ≤ nr ∧ nr ≤ 2147483647 by omega)) (show -2147483648 ≤ j14 ∧ j14 ≤ 2147483647 by omega)) (show -2147483648 ≤ j21 ∧ j21 ≤ 2147483647 by omega)) (show -2147483648 ≤ j27 ∧ j27 ≤ 2147483647 by omega)) (show 0 ≤ j33 ∧ j33 ≤ 65535 by omega)), (wp_us (by decide) (wp_us (by decide) (wp_us (by decide) (wp_us (by decide) (wp_us (by decide) (wp_us (by decide) hW)))))), (fr_us (by decide) (fr_us (by decide) (fr_us (by decide) (fr_us (by decide) (fr_us (by decide) (fr_us (by decide) fr_rf)))))), by omega, by show 0 = 1 → 0 ≤ nr ∧ nr ≤ 255; intro hr; omega⟩
                    · show tt Zi d 28 (177, [some (.inr (.inl 8)), some (.inr (.inl 18)), some (.inl bits), some (.inl nr), some (.inl ((mi_shl 1 bits) - 1)), none], [], n, D, (us (us (us (us (us (us s 800 j4) 801 nr) 802 j14) 803 j21) 804 j27) 805 j33), p, c) _
                      refine tt_k 4 (S' := (185, [some (.inr (.inl 8)), some (.inr (.inl 18)), some (.inl bits), some (.inl nr), some (.inl ((mi_shl 1 bits) - 1)), none], [.inl j14, .inl j21], n, D, (us (us (us (us (us (us s 800 j4) 801 nr) 802 j14) 803 j21) 804 j27) 805 j33), p, c)) rfl ?_
                      refine tb_lt (x := j21) (y := j14) rfl rfl (by omega) (fun h38 => ?_) (fun h38 => ?_)
                      · show tt Zi d 28 (210, [some (.inr (.inl 8)), some (.inr (.inl 18)), some (.inl bits), some (.inl nr), some (.inl ((mi_shl 1 bits) - 1)), none], [], n, D, (us (us (us (us (us (us s 800 j4) 801 nr) 802 j14) 803 j21) 804 j27) 805 j33), p, c) _
                        refine tt_k 1 (S' := (211, [some (.inr (.inl 8)), some (.inr (.inl 18)), some (.inl bits), some (.inl nr), some (.inl ((mi_shl 1 bits) - 1)), none], [.inl 0], n, D, (us (us (us (us (us (us s 800 j4) 801 nr) 802 j14) 803 j21) 804 j27) 805 j33), p, c)) rfl ?_
                        exact tt_rtb rfl rfl (by omega) ⟨(us (us (us (us (us (us s 800 j4) 801 nr) 802 j14) 803 j21) 804 j27) 805 j33), 0, rfl, rfl, (bS_us (bS_us (bS_us (bS_us (bS_us (bS_us hS (show 0 ≤ j4 ∧ j4 ≤ 65535 by omega)) (show -2147483648 ≤ nr ∧ nr ≤ 2147483647 by omega)) (show -2147483648 ≤ j14 ∧ j14 ≤ 2147483647 by omega)) (show -2147483648 ≤ j21 ∧ j21 ≤ 2147483647 by omega)) (show -2147483648 ≤ j27 ∧ j27 ≤ 2147483647 by omega)) (show 0 ≤ j33 ∧ j33 ≤ 65535 by omega)), (wp_us (by decide) (wp_us (by decide) (wp_us (by decide) (wp_us (by decide) (wp_us (by decide) (wp_us (by decide) hW)))))), (fr_us (by decide) (fr_us (by decide) (fr_us (by decide) (fr_us (by decide) (fr_us (by decide) (fr_us (by decide) fr_rf)))))), by omega, by show 0 = 1 → 0 ≤ nr ∧ nr ≤ 255; intro hr; omega⟩
                      · show tt Zi d 28 (188, [some (.inr (.inl 8)), some (.inr (.inl 18)), some (.inl bits), some (.inl nr), some (.inl ((mi_shl 1 bits) - 1)), none], [], n, D, (us (us (us (us (us (us s 800 j4) 801 nr) 802 j14) 803 j21) 804 j27) 805 j33), p, c) _
                        refine tt_k 4 (S' := (196, [some (.inr (.inl 8)), some (.inr (.inl 18)), some (.inl bits), some (.inl nr), some (.inl ((mi_shl 1 bits) - 1)), none], [.inl j21, .inl j27], n, D, (us (us (us (us (us (us s 800 j4) 801 nr) 802 j14) 803 j21) 804 j27) 805 j33), p, c)) rfl ?_
                        refine tb_lt (x := j27) (y := j21) rfl rfl (by omega) (fun h39 => ?_) (fun h39 => ?_)
                        · show tt Zi d 28 (210, [some (.inr (.inl 8)), some (.inr (.inl 18)), some (.inl bits), some (.inl nr), some (.inl ((mi_shl 1 bits) - 1)), none], [], n, D, (us (us (us (us (us (us s 800 j4) 801 nr) 802 j14) 803 j21) 804 j27) 805 j33), p, c) _
                          refine tt_k 1 (S' := (211, [some (.inr (.inl 8)), some (.inr (.inl 18)), some (.inl bits), some (.inl nr), some (.inl ((mi_shl 1 bits) - 1)), none], [.inl 0], n, D, (us (us (us (us (us (us s 800 j4) 801 nr) 802 j14) 803 j21) 804 j27) 805 j33), p, c)) rfl ?_
                          exact tt_rtb rfl rfl (by omega) ⟨(us (us (us (us (us (us s 800 j4) 801 nr) 802 j14) 803 j21) 804 j27) 805 j33), 0, rfl, rfl, (bS_us (bS_us (bS_us (bS_us (bS_us (bS_us hS (show 0 ≤ j4 ∧ j4 ≤ 65535 by omega)) (show -2147483648 ≤ nr ∧ nr ≤ 2147483647 by omega)) (show -2147483648 ≤ j14 ∧ j14 ≤ 2147483647 by omega)) (show -2147483648 ≤ j21 ∧ j21 ≤ 2147483647 by omega)) (show -2147483648 ≤ j27 ∧ j27 ≤ 2147483647 by omega)) (show 0 ≤ j33 ∧ j33 ≤ 65535 by omega)), (wp_us (by decide) (wp_us (by decide) (wp_us (by decide) (wp_us (by decide) (wp_us (by decide) (wp_us (by decide) hW)))))), (fr_us (by decide) (fr_us (by decide) (fr_us (by decide) (fr_us (by decide) (fr_us (by decide) (fr_us (by decide) fr_rf)))))), by omega, by show 0 = 1 → 0 ≤ nr ∧ nr ≤ 255; intro hr; omega⟩
                        · show tt Zi d 28 (199, [some (.inr (.inl 8)), some (.inr (.inl 18)), some (.inl bits), some (.inl nr), some (.inl ((mi_shl 1 bits) - 1)), none], [], n, D, (us (us (us (us (us (us s 800 j4) 801 nr) 802 j14) 803 j21) 804 j27) 805 j33), p, c) _
                          refine tt_k 4 (S' := (207, [some (.inr (.inl 8)), some (.inr (.inl 18)), some (.inl bits), some (.inl nr), some (.inl ((mi_shl 1 bits) - 1)), none], [.inl j4, .inl j27], n, D, (us (us (us (us (us (us s 800 j4) 801 nr) 802 j14) 803 j21) 804 j27) 805 j33), p, c)) rfl ?_
                          refine tb_le (x := j27) (y := j4) rfl rfl (by omega) (fun h40 => ?_) (fun h40 => ?_)
                          · show tt Zi d 28 (212, [some (.inr (.inl 8)), some (.inr (.inl 18)), some (.inl bits), some (.inl nr), some (.inl ((mi_shl 1 bits) - 1)), none], [], n, D, (us (us (us (us (us (us s 800 j4) 801 nr) 802 j14) 803 j21) 804 j27) 805 j33), p, c) _
                            refine tt_k 3 (S' := (217, [some (.inr (.inl 8)), some (.inr (.inl 18)), some (.inl bits), some (.inl nr), some (.inl ((mi_shl 1 bits) - 1)), none], [.inl 3, .inl j33], n, D, (us (us (us (us (us (us s 800 j4) 801 nr) 802 j14) 803 j21) 804 j27) 805 j33), p, c)) rfl ?_
                            refine tb_lt (x := j33) (y := 3) rfl rfl (by omega) (fun h41 => ?_) (fun h41 => ?_)
                            · show tt Zi d 28 (237, [some (.inr (.inl 8)), some (.inr (.inl 18)), some (.inl bits), some (.inl nr), some (.inl ((mi_shl 1 bits) - 1)), none], [], n, D, (us (us (us (us (us (us s 800 j4) 801 nr) 802 j14) 803 j21) 804 j27) 805 j33), p, c) _
                              refine tt_k 1 (S' := (238, [some (.inr (.inl 8)), some (.inr (.inl 18)), some (.inl bits), some (.inl nr), some (.inl ((mi_shl 1 bits) - 1)), none], [.inl 0], n, D, (us (us (us (us (us (us s 800 j4) 801 nr) 802 j14) 803 j21) 804 j27) 805 j33), p, c)) rfl ?_
                              exact tt_rtb rfl rfl (by omega) ⟨(us (us (us (us (us (us s 800 j4) 801 nr) 802 j14) 803 j21) 804 j27) 805 j33), 0, rfl, rfl, (bS_us (bS_us (bS_us (bS_us (bS_us (bS_us hS (show 0 ≤ j4 ∧ j4 ≤ 65535 by omega)) (show -2147483648 ≤ nr ∧ nr ≤ 2147483647 by omega)) (show -2147483648 ≤ j14 ∧ j14 ≤ 2147483647 by omega)) (show -2147483648 ≤ j21 ∧ j21 ≤ 2147483647 by omega)) (show -2147483648 ≤ j27 ∧ j27 ≤ 2147483647 by omega)) (show 0 ≤ j33 ∧ j33 ≤ 65535 by omega)), (wp_us (by decide) (wp_us (by decide) (wp_us (by decide) (wp_us (by decide) (wp_us (by decide) (wp_us (by decide) hW)))))), (fr_us (by decide) (fr_us (by decide) (fr_us (by decide) (fr_us (by decide) (fr_us (by decide) (fr_us (by decide) fr_rf)))))), by omega, by show 0 = 1 → 0 ≤ nr ∧ nr ≤ 255; intro hr; omega⟩
                            · show tt Zi d 28 (220, [some (.inr (.inl 8)), some (.inr (.inl 18)), some (.inl bits), some (.inl nr), some (.inl ((mi_shl 1 bits) - 1)), none], [], n, D, (us (us (us (us (us (us s 800 j4) 801 nr) 802 j14) 803 j21) 804 j27) 805 j33), p, c) _
                              refine tt_k 5 (S' := (231, [some (.inr (.inl 8)), some (.inr (.inl 18)), some (.inl bits), some (.inl nr), some (.inl ((mi_shl 1 bits) - 1)), none], [.inl j4, .inl 255, .inl j33], n, D, (us (us (us (us (us (us s 800 j4) 801 nr) 802 j14) 803 j21) 804 j27) 805 j33), p, c)) rfl ?_
                              refine tt_max (k := 0) (x := 255) (y := j4) rfl rfl (Nat.le_of_ble_eq_true rfl) (by omega) ?_
                              refine tb_le (x := j33) (y := (max 255 j4)) rfl rfl (by omega) (fun h42 => ?_) (fun h42 => ?_)
                              · show tt Zi d 28 (239, [some (.inr (.inl 8)), some (.inr (.inl 18)), some (.inl bits), some (.inl nr), some (.inl ((mi_shl 1 bits) - 1)), none], [], n, D, (us (us (us (us (us (us s 800 j4) 801 nr) 802 j14) 803 j21) 804 j27) 805 j33), p, c) _
                                refine tt_k 14 (S' := (261, [some (.inr (.inl 8)), some (.inr (.inl 18)), some (.inl bits), some (.inl nr), some (.inl ((mi_shl 1 bits) - 1)), none], [.inl nr, .inl 2, .inl j4, .inr (.inl 8)], n, D, (us (us (us (us (us (us (us s 800 j4) 801 nr) 802 j14) 803 j21) 804 j27) 805 j33) 806 ((2 * nr) + 1)), p, c)) rfl ?_
                                refine tt_k 4 (S' := (267, [some (.inr (.inl 8)), some (.inr (.inl 18)), some (.inl bits), some (.inl nr), some (.inl ((mi_shl 1 bits) - 1)), none], [.inl ((2 * nr) + 1), .inl (j4 + (2 * nr)), .inr (.inl 8)], n, D, (us (us (us (us (us (us (us s 800 j4) 801 nr) 802 j14) 803 j21) 804 j27) 805 j33) 806 ((2 * nr) + 1)), p, c)) rfl ?_
                                refine tt_dvp (x := (j4 + (2 * nr))) (y := ((2 * nr) + 1)) rfl (by omega) ?_
                                show tt Zi d 28 (268, [some (.inr (.inl 8)), some (.inr (.inl 18)), some (.inl bits), some (.inl nr), some (.inl ((mi_shl 1 bits) - 1)), none], [.inl (((j4 + (2 * nr)) / ((2 * nr) + 1))), .inr (.inl 8)], n, D, (us (us (us (us (us (us (us s 800 j4) 801 nr) 802 j14) 803 j21) 804 j27) 805 j33) 806 ((2 * nr) + 1)), p, c) _
                                have b43 : 0 ≤ ((j4 + (2 * nr)) / ((2 * nr) + 1)) ∧ ((j4 + (2 * nr)) / ((2 * nr) + 1)) ≤ (j4 + (2 * nr)) := td_le (by omega) (by omega)
                                have b44 := rg_le (most := j4) (near := nr) (by omega) (by omega)
                                refine tt_k 6 (S' := (278, [some (.inr (.inl 8)), some (.inr (.inl 18)), some (.inl bits), some (.inl nr), some (.inl ((mi_shl 1 bits) - 1)), none], [.inl ((((j4 + (2 * nr)) / ((2 * nr) + 1)) + 1)), .inr (.inl 8)], n, D, (us (us (us (us (us (us (us (us s 800 j4) 801 nr) 802 j14) 803 j21) 804 j27) 805 j33) 806 ((2 * nr) + 1)) 807 ((((j4 + (2 * nr)) / ((2 * nr) + 1)) + 1))), p, c)) rfl ?_
                                refine tt_cl (by omega) rfl (g_bitsFor (Zi := Zi) (q := q) (n := n) (D := D) (s := (us (us (us (us (us (us (us (us s 800 j4) 801 nr) 802 j14) 803 j21) 804 j27) 805 j33) 806 ((2 * nr) + 1)) 807 ((((j4 + (2 * nr)) / ((2 * nr) + 1)) + 1)))) (p := p) (c := c) (by omega) hz (by omega) hD (bS_us (bS_us (bS_us (bS_us (bS_us (bS_us (bS_us (bS_us hS (show 0 ≤ j4 ∧ j4 ≤ 65535 by omega)) (show -2147483648 ≤ nr ∧ nr ≤ 2147483647 by omega)) (show -2147483648 ≤ j14 ∧ j14 ≤ 2147483647 by omega)) (show -2147483648 ≤ j21 ∧ j21 ≤ 2147483647 by omega)) (show -2147483648 ≤ j27 ∧ j27 ≤ 2147483647 by omega)) (show 0 ≤ j33 ∧ j33 ≤ 65535 by omega)) (show 1 ≤ ((2 * nr) + 1) ∧ ((2 * nr) + 1) ≤ 511 by omega)) (show 0 ≤ (((j4 + (2 * nr)) / ((2 * nr) + 1)) + 1) ∧ (((j4 + (2 * nr)) / ((2 * nr) + 1)) + 1) ≤ 65536 by omega)) hC (wp_us (by decide) (wp_us (by decide) (wp_us (by decide) (wp_us (by decide) (wp_us (by decide) (wp_us (by decide) (wp_us (by decide) (wp_us (by decide) hW)))))))) ((((j4 + (2 * nr)) / ((2 * nr) + 1)) + 1)) (by omega)) ?_
                                rintro _ _ ⟨r45, rfl, rfl, b46, k47⟩
                                show tt Zi d 28 (281, [some (.inr (.inl 8)), some (.inr (.inl 18)), some (.inl bits), some (.inl nr), some (.inl ((mi_shl 1 bits) - 1)), none], [.inl r45, .inr (.inl 8)], n, D, (us (us (us (us (us (us (us (us s 800 j4) 801 nr) 802 j14) 803 j21) 804 j27) 805 j33) 806 ((2 * nr) + 1)) 807 ((((j4 + (2 * nr)) / ((2 * nr) + 1)) + 1))), p, c) _
                                replace k47 : ((((j4 + (2 * nr)) / ((2 * nr) + 1)) + 1)) ≤ 65536 → r45 ≤ 16 := k47
                                refine tt_k 6 (S' := (291, [some (.inr (.inl 8)), some (.inr (.inl 18)), some (.inl bits), some (.inl nr), some (.inl ((mi_shl 1 bits) - 1)), none], [.inl (j4 + 1), .inl 2], n, D, (us (us (us (us (us (us (us (us (us s 800 j4) 801 nr) 802 j14) 803 j21) 804 j27) 805 j33) 806 ((2 * nr) + 1)) 807 ((((j4 + (2 * nr)) / ((2 * nr) + 1)) + 1))) 808 r45), p, c)) rfl ?_
                                refine tt_cl (by omega) rfl (g_bitsFor (Zi := Zi) (q := q) (n := n) (D := D) (s := (us (us (us (us (us (us (us (us (us s 800 j4) 801 nr) 802 j14) 803 j21) 804 j27) 805 j33) 806 ((2 * nr) + 1)) 807 ((((j4 + (2 * nr)) / ((2 * nr) + 1)) + 1))) 808 r45)) (p := p) (c := c) (by omega) hz (by omega) hD (bS_us (bS_us (bS_us (bS_us (bS_us (bS_us (bS_us (bS_us (bS_us hS (show 0 ≤ j4 ∧ j4 ≤ 65535 by omega)) (show -2147483648 ≤ nr ∧ nr ≤ 2147483647 by omega)) (show -2147483648 ≤ j14 ∧ j14 ≤ 2147483647 by omega)) (show -2147483648 ≤ j21 ∧ j21 ≤ 2147483647 by omega)) (show -2147483648 ≤ j27 ∧ j27 ≤ 2147483647 by omega)) (show 0 ≤ j33 ∧ j33 ≤ 65535 by omega)) (show 1 ≤ ((2 * nr) + 1) ∧ ((2 * nr) + 1) ≤ 511 by omega)) (show 0 ≤ (((j4 + (2 * nr)) / ((2 * nr) + 1)) + 1) ∧ (((j4 + (2 * nr)) / ((2 * nr) + 1)) + 1) ≤ 65536 by omega)) (show 0 ≤ r45 ∧ r45 ≤ 30 by omega)) hC (wp_us (by decide) (wp_us (by decide) (wp_us (by decide) (wp_us (by decide) (wp_us (by decide) (wp_us (by decide) (wp_us (by decide) (wp_us (by decide) (wp_us (by decide) hW))))))))) (j4 + 1) (by omega)) ?_
                                rintro _ _ ⟨r48, rfl, rfl, b49, k50⟩
                                show tt Zi d 28 (294, [some (.inr (.inl 8)), some (.inr (.inl 18)), some (.inl bits), some (.inl nr), some (.inl ((mi_shl 1 bits) - 1)), none], [.inl r48, .inl 2], n, D, (us (us (us (us (us (us (us (us (us s 800 j4) 801 nr) 802 j14) 803 j21) 804 j27) 805 j33) 806 ((2 * nr) + 1)) 807 ((((j4 + (2 * nr)) / ((2 * nr) + 1)) + 1))) 808 r45), p, c) _
                                replace k50 : (j4 + 1) ≤ 65536 → r48 ≤ 16 := k50
                                refine tt_max (k := 0) (x := 2) (y := r48) rfl rfl (Nat.le_of_ble_eq_true rfl) (by omega) ?_
                                refine tt_k 6 (S' := (307, [some (.inr (.inl 8)), some (.inr (.inl 18)), some (.inl bits), some (.inl nr), some (.inl ((mi_shl 1 bits) - 1)), some (.inl (max 2 r48))], [.inl (max 2 r48), .inl 8, .inl (max 2 r48), .inl 2, .inr (.inl 8)], n, D, (us (us (us (us (us (us (us (us (us s 800 j4) 801 nr) 802 j14) 803 j21) 804 j27) 805 j33) 806 ((2 * nr) + 1)) 807 ((((j4 + (2 * nr)) / ((2 * nr) + 1)) + 1))) 808 r45), p, c)) rfl ?_
                                refine tt_max (k := 0) (x := 8) (y := (max 2 r48)) rfl rfl (Nat.le_of_ble_eq_true rfl) (by omega) ?_
                                refine tt_k 4 (S' := (316, [some (.inr (.inl 8)), some (.inr (.inl 18)), some (.inl bits), some (.inl nr), some (.inl ((mi_shl 1 bits) - 1)), some (.inl (max 2 r48))], [.inl 1], n, D, (us (us (us (us (us (us (us (us (us (us s 800 j4) 801 nr) 802 j14) 803 j21) 804 j27) 805 j33) 806 ((2 * nr) + 1)) 807 ((((j4 + (2 * nr)) / ((2 * nr) + 1)) + 1))) 808 r45) 809 ((2 * ((max 2 r48) + (max 8 (max 2 r48)))))), p, c)) rfl ?_
                                exact tt_rtb rfl rfl (by omega) ⟨(us (us (us (us (us (us (us (us (us (us s 800 j4) 801 nr) 802 j14) 803 j21) 804 j27) 805 j33) 806 ((2 * nr) + 1)) 807 ((((j4 + (2 * nr)) / ((2 * nr) + 1)) + 1))) 808 r45) 809 ((2 * ((max 2 r48) + (max 8 (max 2 r48)))))), 1, rfl, rfl, (bS_us (bS_us (bS_us (bS_us (bS_us (bS_us (bS_us (bS_us (bS_us (bS_us hS (show 0 ≤ j4 ∧ j4 ≤ 65535 by omega)) (show -2147483648 ≤ nr ∧ nr ≤ 2147483647 by omega)) (show -2147483648 ≤ j14 ∧ j14 ≤ 2147483647 by omega)) (show -2147483648 ≤ j21 ∧ j21 ≤ 2147483647 by omega)) (show -2147483648 ≤ j27 ∧ j27 ≤ 2147483647 by omega)) (show 0 ≤ j33 ∧ j33 ≤ 65535 by omega)) (show 1 ≤ ((2 * nr) + 1) ∧ ((2 * nr) + 1) ≤ 511 by omega)) (show 0 ≤ (((j4 + (2 * nr)) / ((2 * nr) + 1)) + 1) ∧ (((j4 + (2 * nr)) / ((2 * nr) + 1)) + 1) ≤ 65536 by omega)) (show 0 ≤ r45 ∧ r45 ≤ 30 by omega)) (show 0 ≤ (2 * ((max 2 r48) + (max 8 (max 2 r48)))) ∧ (2 * ((max 2 r48) + (max 8 (max 2 r48)))) ≤ 64 by omega)), (wp_us (by decide) (wp_us (by decide) (wp_us (by decide) (wp_us (by decide) (wp_us (by decide) (wp_us (by decide) (wp_us (by decide) (wp_us (by decide) (wp_us (by decide) (wp_us (by decide) hW)))))))))), (fr_us (by decide) (fr_us (by decide) (fr_us (by decide) (fr_us (by decide) (fr_us (by decide) (fr_us (by decide) (fr_us (by decide) (fr_us (by decide) (fr_us (by decide) (fr_us (by decide) fr_rf)))))))))), by omega, by show 1 = 1 → 0 ≤ nr ∧ nr ≤ 255; intro hr; omega⟩
                              · show tt Zi d 28 (237, [some (.inr (.inl 8)), some (.inr (.inl 18)), some (.inl bits), some (.inl nr), some (.inl ((mi_shl 1 bits) - 1)), none], [], n, D, (us (us (us (us (us (us s 800 j4) 801 nr) 802 j14) 803 j21) 804 j27) 805 j33), p, c) _
                                refine tt_k 1 (S' := (238, [some (.inr (.inl 8)), some (.inr (.inl 18)), some (.inl bits), some (.inl nr), some (.inl ((mi_shl 1 bits) - 1)), none], [.inl 0], n, D, (us (us (us (us (us (us s 800 j4) 801 nr) 802 j14) 803 j21) 804 j27) 805 j33), p, c)) rfl ?_
                                exact tt_rtb rfl rfl (by omega) ⟨(us (us (us (us (us (us s 800 j4) 801 nr) 802 j14) 803 j21) 804 j27) 805 j33), 0, rfl, rfl, (bS_us (bS_us (bS_us (bS_us (bS_us (bS_us hS (show 0 ≤ j4 ∧ j4 ≤ 65535 by omega)) (show -2147483648 ≤ nr ∧ nr ≤ 2147483647 by omega)) (show -2147483648 ≤ j14 ∧ j14 ≤ 2147483647 by omega)) (show -2147483648 ≤ j21 ∧ j21 ≤ 2147483647 by omega)) (show -2147483648 ≤ j27 ∧ j27 ≤ 2147483647 by omega)) (show 0 ≤ j33 ∧ j33 ≤ 65535 by omega)), (wp_us (by decide) (wp_us (by decide) (wp_us (by decide) (wp_us (by decide) (wp_us (by decide) (wp_us (by decide) hW)))))), (fr_us (by decide) (fr_us (by decide) (fr_us (by decide) (fr_us (by decide) (fr_us (by decide) (fr_us (by decide) fr_rf)))))), by omega, by show 0 = 1 → 0 ≤ nr ∧ nr ≤ 255; intro hr; omega⟩
                          · show tt Zi d 28 (210, [some (.inr (.inl 8)), some (.inr (.inl 18)), some (.inl bits), some (.inl nr), some (.inl ((mi_shl 1 bits) - 1)), none], [], n, D, (us (us (us (us (us (us s 800 j4) 801 nr) 802 j14) 803 j21) 804 j27) 805 j33), p, c) _
                            refine tt_k 1 (S' := (211, [some (.inr (.inl 8)), some (.inr (.inl 18)), some (.inl bits), some (.inl nr), some (.inl ((mi_shl 1 bits) - 1)), none], [.inl 0], n, D, (us (us (us (us (us (us s 800 j4) 801 nr) 802 j14) 803 j21) 804 j27) 805 j33), p, c)) rfl ?_
                            exact tt_rtb rfl rfl (by omega) ⟨(us (us (us (us (us (us s 800 j4) 801 nr) 802 j14) 803 j21) 804 j27) 805 j33), 0, rfl, rfl, (bS_us (bS_us (bS_us (bS_us (bS_us (bS_us hS (show 0 ≤ j4 ∧ j4 ≤ 65535 by omega)) (show -2147483648 ≤ nr ∧ nr ≤ 2147483647 by omega)) (show -2147483648 ≤ j14 ∧ j14 ≤ 2147483647 by omega)) (show -2147483648 ≤ j21 ∧ j21 ≤ 2147483647 by omega)) (show -2147483648 ≤ j27 ∧ j27 ≤ 2147483647 by omega)) (show 0 ≤ j33 ∧ j33 ≤ 65535 by omega)), (wp_us (by decide) (wp_us (by decide) (wp_us (by decide) (wp_us (by decide) (wp_us (by decide) (wp_us (by decide) hW)))))), (fr_us (by decide) (fr_us (by decide) (fr_us (by decide) (fr_us (by decide) (fr_us (by decide) (fr_us (by decide) fr_rf)))))), by omega, by show 0 = 1 → 0 ≤ nr ∧ nr ≤ 255; intro hr; omega⟩
                  refine tz_ne (x := v31) rfl rfl (by omega) (fun h51 => ?_) (fun h51 => ?_)
                  · show tt Zi d 28 (160, [some (.inr (.inl 8)), some (.inr (.inl 18)), some (.inl bits), some (.inl nr), some (.inl ((mi_shl 1 bits) - 1)), none], [.inr (.inl 8)], n, D, (us (us (us (us (us s 800 j4) 801 nr) 802 j14) 803 j21) 804 j27), p, c) _
                    refine tt_k 2 (S' := (162, [some (.inr (.inl 8)), some (.inr (.inl 18)), some (.inl bits), some (.inl nr), some (.inl ((mi_shl 1 bits) - 1)), none], [.inl 4, .inr (.inl 18), .inr (.inl 8)], n, D, (us (us (us (us (us s 800 j4) 801 nr) 802 j14) 803 j21) 804 j27), p, c)) rfl ?_
                    refine tt_ilb (i := 4) (m := 5) (lo := 0) (hi := 65535) rfl rfl (by omega) hC ⟨rfl, rfl⟩ ?_
                    intro v52 b53 hvv52
                    show tt Zi d 28 (163, [some (.inr (.inl 8)), some (.inr (.inl 18)), some (.inl bits), some (.inl nr), some (.inl ((mi_shl 1 bits) - 1)), none], [.inl v52, .inr (.inl 8)], n, D, (us (us (us (us (us s 800 j4) 801 nr) 802 j14) 803 j21) 804 j27), p, c) _
                    exact K34 v52  (by omega) (trivial)
                  · show tt Zi d 28 (155, [some (.inr (.inl 8)), some (.inr (.inl 18)), some (.inl bits), some (.inl nr), some (.inl ((mi_shl 1 bits) - 1)), none], [.inr (.inl 8)], n, D, (us (us (us (us (us s 800 j4) 801 nr) 802 j14) 803 j21) 804 j27), p, c) _
                    refine tt_k 2 (S' := (163, [some (.inr (.inl 8)), some (.inr (.inl 18)), some (.inl bits), some (.inl nr), some (.inl ((mi_shl 1 bits) - 1)), none], [.inl 64, .inr (.inl 8)], n, D, (us (us (us (us (us s 800 j4) 801 nr) 802 j14) 803 j21) 804 j27), p, c)) rfl ?_
                    exact K34 64  (by omega) (trivial)
                refine tz_ne (x := v25) rfl rfl (by omega) (fun h54 => ?_) (fun h54 => ?_)
                · show tt Zi d 28 (142, [some (.inr (.inl 8)), some (.inr (.inl 18)), some (.inl bits), some (.inl nr), some (.inl ((mi_shl 1 bits) - 1)), none], [.inr (.inl 8)], n, D, (us (us (us (us s 800 j4) 801 nr) 802 j14) 803 j21), p, c) _
                  refine tt_k 2 (S' := (144, [some (.inr (.inl 8)), some (.inr (.inl 18)), some (.inl bits), some (.inl nr), some (.inl ((mi_shl 1 bits) - 1)), none], [.inl 3, .inr (.inl 18), .inr (.inl 8)], n, D, (us (us (us (us s 800 j4) 801 nr) 802 j14) 803 j21), p, c)) rfl ?_
                  refine tt_ilb (i := 3) (m := 5) (lo := 0) (hi := 65535) rfl rfl (by omega) hC ⟨rfl, rfl⟩ ?_
                  intro v55 b56 hvv55
                  show tt Zi d 28 (145, [some (.inr (.inl 8)), some (.inr (.inl 18)), some (.inl bits), some (.inl nr), some (.inl ((mi_shl 1 bits) - 1)), none], [.inl v55, .inr (.inl 8)], n, D, (us (us (us (us s 800 j4) 801 nr) 802 j14) 803 j21), p, c) _
                  exact K28 v55  (by omega) (trivial)
                · show tt Zi d 28 (130, [some (.inr (.inl 8)), some (.inr (.inl 18)), some (.inl bits), some (.inl nr), some (.inl ((mi_shl 1 bits) - 1)), none], [.inr (.inl 8)], n, D, (us (us (us (us s 800 j4) 801 nr) 802 j14) 803 j21), p, c) _
                  refine tt_k 4 (S' := (136, [some (.inr (.inl 8)), some (.inr (.inl 18)), some (.inl bits), some (.inl nr), some (.inl ((mi_shl 1 bits) - 1)), none], [.inl j21, .inl 2, .inr (.inl 8), .inr (.inl 8)], n, D, (us (us (us (us s 800 j4) 801 nr) 802 j14) 803 j21), p, c)) rfl ?_
                  refine tt_cl (by omega) rfl (g_plain (Zi := Zi) (q := q) (n := n) (D := D) (s := (us (us (us (us s 800 j4) 801 nr) 802 j14) 803 j21)) (p := p) (c := c) (by omega) hz (by omega) hD (bS_us (bS_us (bS_us (bS_us hS (show 0 ≤ j4 ∧ j4 ≤ 65535 by omega)) (show -2147483648 ≤ nr ∧ nr ≤ 2147483647 by omega)) (show -2147483648 ≤ j14 ∧ j14 ≤ 2147483647 by omega)) (show -2147483648 ≤ j21 ∧ j21 ≤ 2147483647 by omega)) hC (wp_us (by decide) (wp_us (by decide) (wp_us (by decide) (wp_us (by decide) hW)))) 2 j21 (by omega) (by omega)) ?_
                  rintro _ _ ⟨r57, rfl, rfl, b58⟩
                  show tt Zi d 28 (139, [some (.inr (.inl 8)), some (.inr (.inl 18)), some (.inl bits), some (.inl nr), some (.inl ((mi_shl 1 bits) - 1)), none], [.inl r57, .inr (.inl 8)], n, D, (us (us (us (us s 800 j4) 801 nr) 802 j14) 803 j21), p, c) _
                  refine tt_k 1 (S' := (145, [some (.inr (.inl 8)), some (.inr (.inl 18)), some (.inl bits), some (.inl nr), some (.inl ((mi_shl 1 bits) - 1)), none], [.inl r57, .inr (.inl 8)], n, D, (us (us (us (us s 800 j4) 801 nr) 802 j14) 803 j21), p, c)) rfl ?_
                  exact K28 r57  (by omega) (trivial)
              refine tz_ne (x := v19) rfl rfl (by omega) (fun h59 => ?_) (fun h59 => ?_)
              · show tt Zi d 28 (117, [some (.inr (.inl 8)), some (.inr (.inl 18)), some (.inl bits), some (.inl nr), some (.inl ((mi_shl 1 bits) - 1)), none], [.inr (.inl 8)], n, D, (us (us (us s 800 j4) 801 nr) 802 j14), p, c) _
                refine tt_k 2 (S' := (119, [some (.inr (.inl 8)), some (.inr (.inl 18)), some (.inl bits), some (.inl nr), some (.inl ((mi_shl 1 bits) - 1)), none], [.inl 2, .inr (.inl 18), .inr (.inl 8)], n, D, (us (us (us s 800 j4) 801 nr) 802 j14), p, c)) rfl ?_
                refine tt_ilb (i := 2) (m := 5) (lo := 0) (hi := 65535) rfl rfl (by omega) hC ⟨rfl, rfl⟩ ?_
                intro v60 b61 hvv60
                show tt Zi d 28 (120, [some (.inr (.inl 8)), some (.inr (.inl 18)), some (.inl bits), some (.inl nr), some (.inl ((mi_shl 1 bits) - 1)), none], [.inl v60, .inr (.inl 8)], n, D, (us (us (us s 800 j4) 801 nr) 802 j14), p, c) _
                exact K22 v60  (by omega) (trivial)
              · show tt Zi d 28 (105, [some (.inr (.inl 8)), some (.inr (.inl 18)), some (.inl bits), some (.inl nr), some (.inl ((mi_shl 1 bits) - 1)), none], [.inr (.inl 8)], n, D, (us (us (us s 800 j4) 801 nr) 802 j14), p, c) _
                refine tt_k 4 (S' := (111, [some (.inr (.inl 8)), some (.inr (.inl 18)), some (.inl bits), some (.inl nr), some (.inl ((mi_shl 1 bits) - 1)), none], [.inl j14, .inl 1, .inr (.inl 8), .inr (.inl 8)], n, D, (us (us (us s 800 j4) 801 nr) 802 j14), p, c)) rfl ?_
                refine tt_cl (by omega) rfl (g_plain (Zi := Zi) (q := q) (n := n) (D := D) (s := (us (us (us s 800 j4) 801 nr) 802 j14)) (p := p) (c := c) (by omega) hz (by omega) hD (bS_us (bS_us (bS_us hS (show 0 ≤ j4 ∧ j4 ≤ 65535 by omega)) (show -2147483648 ≤ nr ∧ nr ≤ 2147483647 by omega)) (show -2147483648 ≤ j14 ∧ j14 ≤ 2147483647 by omega)) hC (wp_us (by decide) (wp_us (by decide) (wp_us (by decide) hW))) 1 j14 (by omega) (by omega)) ?_
                rintro _ _ ⟨r62, rfl, rfl, b63⟩
                show tt Zi d 28 (114, [some (.inr (.inl 8)), some (.inr (.inl 18)), some (.inl bits), some (.inl nr), some (.inl ((mi_shl 1 bits) - 1)), none], [.inl r62, .inr (.inl 8)], n, D, (us (us (us s 800 j4) 801 nr) 802 j14), p, c) _
                refine tt_k 1 (S' := (120, [some (.inr (.inl 8)), some (.inr (.inl 18)), some (.inl bits), some (.inl nr), some (.inl ((mi_shl 1 bits) - 1)), none], [.inl r62, .inr (.inl 8)], n, D, (us (us (us s 800 j4) 801 nr) 802 j14), p, c)) rfl ?_
                exact K22 r62  (by omega) (trivial)
            refine tz_ne (x := v12) rfl rfl (by omega) (fun h64 => ?_) (fun h64 => ?_)
            · show tt Zi d 28 (92, [some (.inr (.inl 8)), some (.inr (.inl 18)), some (.inl bits), some (.inl nr), some (.inl ((mi_shl 1 bits) - 1)), none], [.inr (.inl 8)], n, D, (us (us s 800 j4) 801 nr), p, c) _
              refine tt_k 2 (S' := (94, [some (.inr (.inl 8)), some (.inr (.inl 18)), some (.inl bits), some (.inl nr), some (.inl ((mi_shl 1 bits) - 1)), none], [.inl 1, .inr (.inl 18), .inr (.inl 8)], n, D, (us (us s 800 j4) 801 nr), p, c)) rfl ?_
              refine tt_ilb (i := 1) (m := 5) (lo := 0) (hi := 65535) rfl rfl (by omega) hC ⟨rfl, rfl⟩ ?_
              intro v65 b66 hvv65
              show tt Zi d 28 (95, [some (.inr (.inl 8)), some (.inr (.inl 18)), some (.inl bits), some (.inl nr), some (.inl ((mi_shl 1 bits) - 1)), none], [.inl v65, .inr (.inl 8)], n, D, (us (us s 800 j4) 801 nr), p, c) _
              exact K15 v65  (by omega) (by omega) (trivial)
            · show tt Zi d 28 (78, [some (.inr (.inl 8)), some (.inr (.inl 18)), some (.inl bits), some (.inl nr), some (.inl ((mi_shl 1 bits) - 1)), none], [.inr (.inl 8)], n, D, (us (us s 800 j4) 801 nr), p, c) _
              refine tt_k 6 (S' := (86, [some (.inr (.inl 8)), some (.inr (.inl 18)), some (.inl bits), some (.inl nr), some (.inl ((mi_shl 1 bits) - 1)), none], [.inl (nr + 1), .inl 0, .inr (.inl 8), .inr (.inl 8)], n, D, (us (us s 800 j4) 801 nr), p, c)) rfl ?_
              refine tt_cl (by omega) rfl (g_plain (Zi := Zi) (q := q) (n := n) (D := D) (s := (us (us s 800 j4) 801 nr)) (p := p) (c := c) (by omega) hz (by omega) hD (bS_us (bS_us hS (show 0 ≤ j4 ∧ j4 ≤ 65535 by omega)) (show -2147483648 ≤ nr ∧ nr ≤ 2147483647 by omega)) hC (wp_us (by decide) (wp_us (by decide) hW)) 0 (nr + 1) (by omega) (by omega)) ?_
              rintro _ _ ⟨r67, rfl, rfl, b68⟩
              show tt Zi d 28 (89, [some (.inr (.inl 8)), some (.inr (.inl 18)), some (.inl bits), some (.inl nr), some (.inl ((mi_shl 1 bits) - 1)), none], [.inl r67, .inr (.inl 8)], n, D, (us (us s 800 j4) 801 nr), p, c) _
              refine tt_k 1 (S' := (95, [some (.inr (.inl 8)), some (.inr (.inl 18)), some (.inl bits), some (.inl nr), some (.inl ((mi_shl 1 bits) - 1)), none], [.inl r67, .inr (.inl 8)], n, D, (us (us s 800 j4) 801 nr), p, c)) rfl ?_
              exact K15 r67  (by omega) (by omega) (trivial)
          · show tt Zi d 28 (69, [some (.inr (.inl 8)), some (.inr (.inl 18)), some (.inl bits), some (.inl nr), some (.inl ((mi_shl 1 bits) - 1)), none], [], n, D, (us (us s 800 j4) 801 nr), p, c) _
            refine tt_k 1 (S' := (70, [some (.inr (.inl 8)), some (.inr (.inl 18)), some (.inl bits), some (.inl nr), some (.inl ((mi_shl 1 bits) - 1)), none], [.inl 0], n, D, (us (us s 800 j4) 801 nr), p, c)) rfl ?_
            exact tt_rtb rfl rfl (by omega) ⟨(us (us s 800 j4) 801 nr), 0, rfl, rfl, (bS_us (bS_us hS (show 0 ≤ j4 ∧ j4 ≤ 65535 by omega)) (show -2147483648 ≤ nr ∧ nr ≤ 2147483647 by omega)), (wp_us (by decide) (wp_us (by decide) hW)), (fr_us (by decide) (fr_us (by decide) fr_rf)), by omega, by show 0 = 1 → 0 ≤ nr ∧ nr ≤ 255; intro hr; omega⟩
  refine tz_ne (x := v2) rfl rfl (by omega) (fun h69 => ?_) (fun h69 => ?_)
  · show tt Zi d 28 (19, [some (.inr (.inl 8)), some (.inr (.inl 18)), some (.inl bits), some (.inl nr), some (.inl ((mi_shl 1 bits) - 1)), none], [.inr (.inl 8)], n, D, s, p, c) _
    refine tt_k 2 (S' := (21, [some (.inr (.inl 8)), some (.inr (.inl 18)), some (.inl bits), some (.inl nr), some (.inl ((mi_shl 1 bits) - 1)), none], [.inl 0, .inr (.inl 18), .inr (.inl 8)], n, D, s, p, c)) rfl ?_
    refine tt_ilb (i := 0) (m := 5) (lo := 0) (hi := 65535) rfl rfl (by omega) hC ⟨rfl, rfl⟩ ?_
    intro v70 b71 hvv70
    show tt Zi d 28 (22, [some (.inr (.inl 8)), some (.inr (.inl 18)), some (.inl bits), some (.inl nr), some (.inl ((mi_shl 1 bits) - 1)), none], [.inl v70, .inr (.inl 8)], n, D, s, p, c) _
    exact K5 v70  (by omega) (trivial)
  · show tt Zi d 28 (14, [some (.inr (.inl 8)), some (.inr (.inl 18)), some (.inl bits), some (.inl nr), some (.inl ((mi_shl 1 bits) - 1)), none], [.inr (.inl 8)], n, D, s, p, c) _
    refine tt_k 2 (S' := (22, [some (.inr (.inl 8)), some (.inr (.inl 18)), some (.inl bits), some (.inl nr), some (.inl ((mi_shl 1 bits) - 1)), none], [.inl ((mi_shl 1 bits) - 1), .inr (.inl 8)], n, D, s, p, c)) rfl ?_
    exact K5 ((mi_shl 1 bits) - 1)  (by omega) (trivial)
