/-! the reference is asked, exactly -/
def abR (i a b c d : Int) : Int := if i = 0 then a else if i = 1 then b else if i = 2 then c else d
def lrR (j a b c d : Int) : Int := if j = 0 then a else if j = 1 then b else if j = 2 then c else d
set_option maxRecDepth 100000 in
set_option maxHeartbeats 4000000 in
theorem y_about {Zi : Nat → Option (Nat × (Nat → Int))} {d n : Nat} {D : Nat → Nat × Nat} {s : Nat → Int} {p : Nat → Nat} {c : Nat → Nat → Int} (hd : 0 ≤ d) (hS : bS s) (hC : bC D c) (i : Int) (b_i : -2147483648 ≤ i ∧ i ≤ 2147483647) : tt Zi d 198 (0, [some (.inr (.inl 30)), some (.inl i)], [], n, D, s, p, c) (fun R H => ∃ (s' : Nat → Int) (r : Int), R = .inl (some (.inl r)) ∧ H = (n, D, s', p, c) ∧ bS s' ∧ fr s s' [3000] ∧ (0 ≤ r ∧ r ≤ 255) ∧ (s' 3000 = (if 0 ≤ i ∧ i ≤ 3 then (if s 3007 = 1 then 0 else 2) else 1)) ∧ ((0 ≤ i ∧ i ≤ 3) → s 3007 = 1 → r = abR i (s 3008) (s 3009) (s 3010) (s 3011))) := by
  have b1 : 0 ≤ (s 3007) ∧ (s 3007) ≤ 1 := hS 3007
  refine tt_k 2 (S' := (2, [some (.inr (.inl 30)), some (.inl i)], [.inl i, .inr (.inl 30)], n, D, s, p, c)) rfl ?_
  refine tz_lt (x := i) rfl rfl (by omega) (fun h2 => ?_) (fun h2 => ?_)
  · show tt Zi d 198 (10, [some (.inr (.inl 30)), some (.inl i)], [.inr (.inl 30)], n, D, s, p, c) _
    refine tt_k 5 (S' := (33, [some (.inr (.inl 30)), some (.inl i)], [.inl 1], n, D, (us s 3000 1), p, c)) rfl ?_
    refine tz_le (x := 1) rfl rfl (by omega) (fun h3 => ?_) (fun h3 => ?_)
    · exfalso; omega
    · show tt Zi d 198 (36, [some (.inr (.inl 30)), some (.inl i)], [], n, D, (us s 3000 1), p, c) _
      refine tt_k 2 (S' := (79, [some (.inr (.inl 30)), some (.inl i)], [.inl 0], n, D, (us s 3000 1), p, c)) rfl ?_
      exact tt_rti rfl rfl ⟨(us s 3000 1), 0, rfl, rfl, (bS_us hS (show 0 ≤ 1 ∧ 1 ≤ 2 by omega)), (fr_us (by decide) fr_rf), by omega, by show 1 = (if 0 ≤ i ∧ i ≤ 3 then (if s 3007 = 1 then 0 else 2) else 1); (repeat' split) <;> omega, by show (0 ≤ i ∧ i ≤ 3) → s 3007 = 1 → 0 = abR i (s 3008) (s 3009) (s 3010) (s 3011); intro h1 h2; unfold abR; (repeat' split) <;> omega⟩
  · show tt Zi d 198 (5, [some (.inr (.inl 30)), some (.inl i)], [.inr (.inl 30)], n, D, s, p, c) _
    refine tt_k 2 (S' := (7, [some (.inr (.inl 30)), some (.inl i)], [.inl 3, .inl i, .inr (.inl 30)], n, D, s, p, c)) rfl ?_
    refine tb_le (x := i) (y := 3) rfl rfl (by omega) (fun h4 => ?_) (fun h4 => ?_)
    · show tt Zi d 198 (14, [some (.inr (.inl 30)), some (.inl i)], [.inr (.inl 30)], n, D, s, p, c) _
      refine tt_k 2 (S' := (18, [some (.inr (.inl 30)), some (.inl i)], [.inl (s 3007), .inr (.inl 30)], n, D, s, p, c)) rfl ?_
      refine tz_ne (x := (s 3007)) rfl rfl (by omega) (fun h5 => ?_) (fun h5 => ?_)
      · show tt Zi d 198 (25, [some (.inr (.inl 30)), some (.inl i)], [.inr (.inl 30)], n, D, s, p, c) _
        refine tt_k 4 (S' := (33, [some (.inr (.inl 30)), some (.inl i)], [.inl 0], n, D, (us s 3000 0), p, c)) rfl ?_
        refine tz_le (x := 0) rfl rfl (by omega) (fun h6 => ?_) (fun h6 => ?_)
        · show tt Zi d 198 (40, [some (.inr (.inl 30)), some (.inl i)], [], n, D, (us s 3000 0), p, c) _
          refine tt_k 1 (S' := (41, [some (.inr (.inl 30)), some (.inl i)], [.inl i], n, D, (us s 3000 0), p, c)) rfl ?_
          refine tz_ne (x := i) rfl rfl (by omega) (fun h7 => ?_) (fun h7 => ?_)
          · show tt Zi d 198 (51, [some (.inr (.inl 30)), some (.inl i)], [], n, D, (us s 3000 0), p, c) _
            refine tt_k 2 (S' := (53, [some (.inr (.inl 30)), some (.inl i)], [.inl 1, .inl i], n, D, (us s 3000 0), p, c)) rfl ?_
            refine tb_ne (x := i) (y := 1) rfl rfl (by omega) (fun h8 => ?_) (fun h8 => ?_)
            · show tt Zi d 198 (63, [some (.inr (.inl 30)), some (.inl i)], [], n, D, (us s 3000 0), p, c) _
              refine tt_k 2 (S' := (65, [some (.inr (.inl 30)), some (.inl i)], [.inl 2, .inl i], n, D, (us s 3000 0), p, c)) rfl ?_
              refine tb_ne (x := i) (y := 2) rfl rfl (by omega) (fun h9 => ?_) (fun h9 => ?_)
              · show tt Zi d 198 (75, [some (.inr (.inl 30)), some (.inl i)], [], n, D, (us s 3000 0), p, c) _
                refine tt_k 2 (S' := (79, [some (.inr (.inl 30)), some (.inl i)], [.inl (s 3011)], n, D, (us s 3000 0), p, c)) rfl ?_
                have b10 : 0 ≤ (s 3011) ∧ (s 3011) ≤ 255 := hS 3011
                exact tt_rti rfl rfl ⟨(us s 3000 0), (s 3011), rfl, rfl, (bS_us hS (show 0 ≤ 0 ∧ 0 ≤ 2 by omega)), (fr_us (by decide) fr_rf), by omega, by show 0 = (if 0 ≤ i ∧ i ≤ 3 then (if s 3007 = 1 then 0 else 2) else 1); (repeat' split) <;> omega, by show (0 ≤ i ∧ i ≤ 3) → s 3007 = 1 → (s 3011) = abR i (s 3008) (s 3009) (s 3010) (s 3011); intro h1 h2; unfold abR; (repeat' split) <;> omega⟩
              · show tt Zi d 198 (68, [some (.inr (.inl 30)), some (.inl i)], [], n, D, (us s 3000 0), p, c) _
                refine tt_k 3 (S' := (79, [some (.inr (.inl 30)), some (.inl i)], [.inl (s 3010)], n, D, (us s 3000 0), p, c)) rfl ?_
                have b11 : 0 ≤ (s 3010) ∧ (s 3010) ≤ 3 := hS 3010
                exact tt_rti rfl rfl ⟨(us s 3000 0), (s 3010), rfl, rfl, (bS_us hS (show 0 ≤ 0 ∧ 0 ≤ 2 by omega)), (fr_us (by decide) fr_rf), by omega, by show 0 = (if 0 ≤ i ∧ i ≤ 3 then (if s 3007 = 1 then 0 else 2) else 1); (repeat' split) <;> omega, by show (0 ≤ i ∧ i ≤ 3) → s 3007 = 1 → (s 3010) = abR i (s 3008) (s 3009) (s 3010) (s 3011); intro h1 h2; unfold abR; (repeat' split) <;> omega⟩
            · show tt Zi d 198 (56, [some (.inr (.inl 30)), some (.inl i)], [], n, D, (us s 3000 0), p, c) _
              refine tt_k 3 (S' := (79, [some (.inr (.inl 30)), some (.inl i)], [.inl (s 3009)], n, D, (us s 3000 0), p, c)) rfl ?_
              have b12 : 0 ≤ (s 3009) ∧ (s 3009) ≤ 64 := hS 3009
              exact tt_rti rfl rfl ⟨(us s 3000 0), (s 3009), rfl, rfl, (bS_us hS (show 0 ≤ 0 ∧ 0 ≤ 2 by omega)), (fr_us (by decide) fr_rf), by omega, by show 0 = (if 0 ≤ i ∧ i ≤ 3 then (if s 3007 = 1 then 0 else 2) else 1); (repeat' split) <;> omega, by show (0 ≤ i ∧ i ≤ 3) → s 3007 = 1 → (s 3009) = abR i (s 3008) (s 3009) (s 3010) (s 3011); intro h1 h2; unfold abR; (repeat' split) <;> omega⟩
          · show tt Zi d 198 (44, [some (.inr (.inl 30)), some (.inl i)], [], n, D, (us s 3000 0), p, c) _
            refine tt_k 3 (S' := (79, [some (.inr (.inl 30)), some (.inl i)], [.inl (s 3008)], n, D, (us s 3000 0), p, c)) rfl ?_
            have b13 : 0 ≤ (s 3008) ∧ (s 3008) ≤ 64 := hS 3008
            exact tt_rti rfl rfl ⟨(us s 3000 0), (s 3008), rfl, rfl, (bS_us hS (show 0 ≤ 0 ∧ 0 ≤ 2 by omega)), (fr_us (by decide) fr_rf), by omega, by show 0 = (if 0 ≤ i ∧ i ≤ 3 then (if s 3007 = 1 then 0 else 2) else 1); (repeat' split) <;> omega, by show (0 ≤ i ∧ i ≤ 3) → s 3007 = 1 → (s 3008) = abR i (s 3008) (s 3009) (s 3010) (s 3011); intro h1 h2; unfold abR; (repeat' split) <;> omega⟩
        · exfalso; omega
      · show tt Zi d 198 (21, [some (.inr (.inl 30)), some (.inl i)], [.inr (.inl 30)], n, D, s, p, c) _
        refine tt_k 5 (S' := (33, [some (.inr (.inl 30)), some (.inl i)], [.inl 2], n, D, (us s 3000 2), p, c)) rfl ?_
        refine tz_le (x := 2) rfl rfl (by omega) (fun h14 => ?_) (fun h14 => ?_)
        · exfalso; omega
        · show tt Zi d 198 (36, [some (.inr (.inl 30)), some (.inl i)], [], n, D, (us s 3000 2), p, c) _
          refine tt_k 2 (S' := (79, [some (.inr (.inl 30)), some (.inl i)], [.inl 0], n, D, (us s 3000 2), p, c)) rfl ?_
          exact tt_rti rfl rfl ⟨(us s 3000 2), 0, rfl, rfl, (bS_us hS (show 0 ≤ 2 ∧ 2 ≤ 2 by omega)), (fr_us (by decide) fr_rf), by omega, by show 2 = (if 0 ≤ i ∧ i ≤ 3 then (if s 3007 = 1 then 0 else 2) else 1); (repeat' split) <;> omega, by show (0 ≤ i ∧ i ≤ 3) → s 3007 = 1 → 0 = abR i (s 3008) (s 3009) (s 3010) (s 3011); intro h1 h2; unfold abR; (repeat' split) <;> omega⟩
    · show tt Zi d 198 (10, [some (.inr (.inl 30)), some (.inl i)], [.inr (.inl 30)], n, D, s, p, c) _
      refine tt_k 5 (S' := (33, [some (.inr (.inl 30)), some (.inl i)], [.inl 1], n, D, (us s 3000 1), p, c)) rfl ?_
      refine tz_le (x := 1) rfl rfl (by omega) (fun h15 => ?_) (fun h15 => ?_)
      · exfalso; omega
      · show tt Zi d 198 (36, [some (.inr (.inl 30)), some (.inl i)], [], n, D, (us s 3000 1), p, c) _
        refine tt_k 2 (S' := (79, [some (.inr (.inl 30)), some (.inl i)], [.inl 0], n, D, (us s 3000 1), p, c)) rfl ?_
        exact tt_rti rfl rfl ⟨(us s 3000 1), 0, rfl, rfl, (bS_us hS (show 0 ≤ 1 ∧ 1 ≤ 2 by omega)), (fr_us (by decide) fr_rf), by omega, by show 1 = (if 0 ≤ i ∧ i ≤ 3 then (if s 3007 = 1 then 0 else 2) else 1); (repeat' split) <;> omega, by show (0 ≤ i ∧ i ≤ 3) → s 3007 = 1 → 0 = abR i (s 3008) (s 3009) (s 3010) (s 3011); intro h1 h2; unfold abR; (repeat' split) <;> omega⟩
set_option maxRecDepth 100000 in
set_option maxHeartbeats 4000000 in
theorem y_sample {Zi : Nat → Option (Nat × (Nat → Int))} {d n : Nat} {D : Nat → Nat × Nat} {s : Nat → Int} {p : Nat → Nat} {c : Nat → Nat → Int} (hd : 0 ≤ d) (hS : bS s) (hC : bC D c) (a_ : Int) (x : Int) (y : Int) (b_a_ : -2147483648 ≤ a_ ∧ a_ ≤ 2147483647) (b_x : -2147483648 ≤ x ∧ x ≤ 2147483647) (b_y : -2147483648 ≤ y ∧ y ≤ 2147483647) : tt Zi d 199 (0, [some (.inr (.inl 30)), some (.inl a_), some (.inl x), some (.inl y)], [], n, D, s, p, c) (fun R H => ∃ (s' : Nat → Int) (r : Int), R = .inl (some (.inl r)) ∧ H = (n, D, s', p, c) ∧ bS s' ∧ fr s s' [3000] ∧ (0 ≤ r ∧ r ≤ 65535) ∧ (s' 3000 = (if s 3007 = 1 then (if (0 ≤ a_ ∧ a_ < s 3010) ∧ (0 ≤ x ∧ x < s 3008) ∧ (0 ≤ y ∧ y < s 3009) then 0 else 2) else 1)) ∧ (s 3007 = 1 → ((0 ≤ a_ ∧ a_ < s 3010) ∧ (0 ≤ x ∧ x < s 3008) ∧ (0 ≤ y ∧ y < s 3009)) → r = c 33 (4096 * a_ + 64 * y + x).toNat)) := by
  have b1 : 0 ≤ (s 3007) ∧ (s 3007) ≤ 1 := hS 3007
  have b2 : 0 ≤ (s 3008) ∧ (s 3008) ≤ 64 := hS 3008
  have b3 : 0 ≤ (s 3009) ∧ (s 3009) ≤ 64 := hS 3009
  have b4 : 0 ≤ (s 3010) ∧ (s 3010) ≤ 3 := hS 3010
  refine tt_k 3 (S' := (5, [some (.inr (.inl 30)), some (.inl a_), some (.inl x), some (.inl y)], [.inl (s 3007), .inr (.inl 30)], n, D, s, p, c)) rfl ?_
  refine tz_ne (x := (s 3007)) rfl rfl (by omega) (fun h5 => ?_) (fun h5 => ?_)
  · show tt Zi d 199 (12, [some (.inr (.inl 30)), some (.inl a_), some (.inl x), some (.inl y)], [.inr (.inl 30)], n, D, s, p, c) _
    refine tt_k 1 (S' := (13, [some (.inr (.inl 30)), some (.inl a_), some (.inl x), some (.inl y)], [.inl a_, .inr (.inl 30)], n, D, s, p, c)) rfl ?_
    refine tz_lt (x := a_) rfl rfl (by omega) (fun h6 => ?_) (fun h6 => ?_)
    · show tt Zi d 199 (52, [some (.inr (.inl 30)), some (.inl a_), some (.inl x), some (.inl y)], [.inr (.inl 30)], n, D, s, p, c) _
      refine tt_k 4 (S' := (60, [some (.inr (.inl 30)), some (.inl a_), some (.inl x), some (.inl y)], [.inl 2], n, D, (us s 3000 2), p, c)) rfl ?_
      refine tz_le (x := 2) rfl rfl (by omega) (fun h7 => ?_) (fun h7 => ?_)
      · exfalso; omega
      · show tt Zi d 199 (63, [some (.inr (.inl 30)), some (.inl a_), some (.inl x), some (.inl y)], [], n, D, (us s 3000 2), p, c) _
        refine tt_k 2 (S' := (84, [some (.inr (.inl 30)), some (.inl a_), some (.inl x), some (.inl y)], [.inl 0], n, D, (us s 3000 2), p, c)) rfl ?_
        exact tt_rti rfl rfl ⟨(us s 3000 2), 0, rfl, rfl, (bS_us hS (show 0 ≤ 2 ∧ 2 ≤ 2 by omega)), (fr_us (by decide) fr_rf), by omega, by show 2 = (if s 3007 = 1 then (if (0 ≤ a_ ∧ a_ < s 3010) ∧ (0 ≤ x ∧ x < s 3008) ∧ (0 ≤ y ∧ y < s 3009) then 0 else 2) else 1); (repeat' split) <;> omega, by show s 3007 = 1 → ((0 ≤ a_ ∧ a_ < s 3010) ∧ (0 ≤ x ∧ x < s 3008) ∧ (0 ≤ y ∧ y < s 3009)) → 0 = c 33 (4096 * a_ + 64 * y + x).toNat; intro h1 h2; first | (exfalso; omega) | rfl⟩
    · show tt Zi d 199 (16, [some (.inr (.inl 30)), some (.inl a_), some (.inl x), some (.inl y)], [.inr (.inl 30)], n, D, s, p, c) _
      refine tt_k 3 (S' := (21, [some (.inr (.inl 30)), some (.inl a_), some (.inl x), some (.inl y)], [.inl (s 3010), .inl a_, .inr (.inl 30)], n, D, s, p, c)) rfl ?_
      refine tb_ge (x := a_) (y := (s 3010)) rfl rfl (by omega) (fun h8 => ?_) (fun h8 => ?_)
      · show tt Zi d 199 (52, [some (.inr (.inl 30)), some (.inl a_), some (.inl x), some (.inl y)], [.inr (.inl 30)], n, D, s, p, c) _
        refine tt_k 4 (S' := (60, [some (.inr (.inl 30)), some (.inl a_), some (.inl x), some (.inl y)], [.inl 2], n, D, (us s 3000 2), p, c)) rfl ?_
        refine tz_le (x := 2) rfl rfl (by omega) (fun h9 => ?_) (fun h9 => ?_)
        · exfalso; omega
        · show tt Zi d 199 (63, [some (.inr (.inl 30)), some (.inl a_), some (.inl x), some (.inl y)], [], n, D, (us s 3000 2), p, c) _
          refine tt_k 2 (S' := (84, [some (.inr (.inl 30)), some (.inl a_), some (.inl x), some (.inl y)], [.inl 0], n, D, (us s 3000 2), p, c)) rfl ?_
          exact tt_rti rfl rfl ⟨(us s 3000 2), 0, rfl, rfl, (bS_us hS (show 0 ≤ 2 ∧ 2 ≤ 2 by omega)), (fr_us (by decide) fr_rf), by omega, by show 2 = (if s 3007 = 1 then (if (0 ≤ a_ ∧ a_ < s 3010) ∧ (0 ≤ x ∧ x < s 3008) ∧ (0 ≤ y ∧ y < s 3009) then 0 else 2) else 1); (repeat' split) <;> omega, by show s 3007 = 1 → ((0 ≤ a_ ∧ a_ < s 3010) ∧ (0 ≤ x ∧ x < s 3008) ∧ (0 ≤ y ∧ y < s 3009)) → 0 = c 33 (4096 * a_ + 64 * y + x).toNat; intro h1 h2; first | (exfalso; omega) | rfl⟩
      · show tt Zi d 199 (24, [some (.inr (.inl 30)), some (.inl a_), some (.inl x), some (.inl y)], [.inr (.inl 30)], n, D, s, p, c) _
        refine tt_k 1 (S' := (25, [some (.inr (.inl 30)), some (.inl a_), some (.inl x), some (.inl y)], [.inl x, .inr (.inl 30)], n, D, s, p, c)) rfl ?_
        refine tz_lt (x := x) rfl rfl (by omega) (fun h10 => ?_) (fun h10 => ?_)
        · show tt Zi d 199 (52, [some (.inr (.inl 30)), some (.inl a_), some (.inl x), some (.inl y)], [.inr (.inl 30)], n, D, s, p, c) _
          refine tt_k 4 (S' := (60, [some (.inr (.inl 30)), some (.inl a_), some (.inl x), some (.inl y)], [.inl 2], n, D, (us s 3000 2), p, c)) rfl ?_
          refine tz_le (x := 2) rfl rfl (by omega) (fun h11 => ?_) (fun h11 => ?_)
          · exfalso; omega
          · show tt Zi d 199 (63, [some (.inr (.inl 30)), some (.inl a_), some (.inl x), some (.inl y)], [], n, D, (us s 3000 2), p, c) _
            refine tt_k 2 (S' := (84, [some (.inr (.inl 30)), some (.inl a_), some (.inl x), some (.inl y)], [.inl 0], n, D, (us s 3000 2), p, c)) rfl ?_
            exact tt_rti rfl rfl ⟨(us s 3000 2), 0, rfl, rfl, (bS_us hS (show 0 ≤ 2 ∧ 2 ≤ 2 by omega)), (fr_us (by decide) fr_rf), by omega, by show 2 = (if s 3007 = 1 then (if (0 ≤ a_ ∧ a_ < s 3010) ∧ (0 ≤ x ∧ x < s 3008) ∧ (0 ≤ y ∧ y < s 3009) then 0 else 2) else 1); (repeat' split) <;> omega, by show s 3007 = 1 → ((0 ≤ a_ ∧ a_ < s 3010) ∧ (0 ≤ x ∧ x < s 3008) ∧ (0 ≤ y ∧ y < s 3009)) → 0 = c 33 (4096 * a_ + 64 * y + x).toNat; intro h1 h2; first | (exfalso; omega) | rfl⟩
        · show tt Zi d 199 (28, [some (.inr (.inl 30)), some (.inl a_), some (.inl x), some (.inl y)], [.inr (.inl 30)], n, D, s, p, c) _
          refine tt_k 3 (S' := (33, [some (.inr (.inl 30)), some (.inl a_), some (.inl x), some (.inl y)], [.inl (s 3008), .inl x, .inr (.inl 30)], n, D, s, p, c)) rfl ?_
          refine tb_ge (x := x) (y := (s 3008)) rfl rfl (by omega) (fun h12 => ?_) (fun h12 => ?_)
          · show tt Zi d 199 (52, [some (.inr (.inl 30)), some (.inl a_), some (.inl x), some (.inl y)], [.inr (.inl 30)], n, D, s, p, c) _
            refine tt_k 4 (S' := (60, [some (.inr (.inl 30)), some (.inl a_), some (.inl x), some (.inl y)], [.inl 2], n, D, (us s 3000 2), p, c)) rfl ?_
            refine tz_le (x := 2) rfl rfl (by omega) (fun h13 => ?_) (fun h13 => ?_)
            · exfalso; omega
            · show tt Zi d 199 (63, [some (.inr (.inl 30)), some (.inl a_), some (.inl x), some (.inl y)], [], n, D, (us s 3000 2), p, c) _
              refine tt_k 2 (S' := (84, [some (.inr (.inl 30)), some (.inl a_), some (.inl x), some (.inl y)], [.inl 0], n, D, (us s 3000 2), p, c)) rfl ?_
              exact tt_rti rfl rfl ⟨(us s 3000 2), 0, rfl, rfl, (bS_us hS (show 0 ≤ 2 ∧ 2 ≤ 2 by omega)), (fr_us (by decide) fr_rf), by omega, by show 2 = (if s 3007 = 1 then (if (0 ≤ a_ ∧ a_ < s 3010) ∧ (0 ≤ x ∧ x < s 3008) ∧ (0 ≤ y ∧ y < s 3009) then 0 else 2) else 1); (repeat' split) <;> omega, by show s 3007 = 1 → ((0 ≤ a_ ∧ a_ < s 3010) ∧ (0 ≤ x ∧ x < s 3008) ∧ (0 ≤ y ∧ y < s 3009)) → 0 = c 33 (4096 * a_ + 64 * y + x).toNat; intro h1 h2; first | (exfalso; omega) | rfl⟩
          · show tt Zi d 199 (36, [some (.inr (.inl 30)), some (.inl a_), some (.inl x), some (.inl y)], [.inr (.inl 30)], n, D, s, p, c) _
            refine tt_k 1 (S' := (37, [some (.inr (.inl 30)), some (.inl a_), some (.inl x), some (.inl y)], [.inl y, .inr (.inl 30)], n, D, s, p, c)) rfl ?_
            refine tz_lt (x := y) rfl rfl (by omega) (fun h14 => ?_) (fun h14 => ?_)
            · show tt Zi d 199 (52, [some (.inr (.inl 30)), some (.inl a_), some (.inl x), some (.inl y)], [.inr (.inl 30)], n, D, s, p, c) _
              refine tt_k 4 (S' := (60, [some (.inr (.inl 30)), some (.inl a_), some (.inl x), some (.inl y)], [.inl 2], n, D, (us s 3000 2), p, c)) rfl ?_
              refine tz_le (x := 2) rfl rfl (by omega) (fun h15 => ?_) (fun h15 => ?_)
              · exfalso; omega
              · show tt Zi d 199 (63, [some (.inr (.inl 30)), some (.inl a_), some (.inl x), some (.inl y)], [], n, D, (us s 3000 2), p, c) _
                refine tt_k 2 (S' := (84, [some (.inr (.inl 30)), some (.inl a_), some (.inl x), some (.inl y)], [.inl 0], n, D, (us s 3000 2), p, c)) rfl ?_
                exact tt_rti rfl rfl ⟨(us s 3000 2), 0, rfl, rfl, (bS_us hS (show 0 ≤ 2 ∧ 2 ≤ 2 by omega)), (fr_us (by decide) fr_rf), by omega, by show 2 = (if s 3007 = 1 then (if (0 ≤ a_ ∧ a_ < s 3010) ∧ (0 ≤ x ∧ x < s 3008) ∧ (0 ≤ y ∧ y < s 3009) then 0 else 2) else 1); (repeat' split) <;> omega, by show s 3007 = 1 → ((0 ≤ a_ ∧ a_ < s 3010) ∧ (0 ≤ x ∧ x < s 3008) ∧ (0 ≤ y ∧ y < s 3009)) → 0 = c 33 (4096 * a_ + 64 * y + x).toNat; intro h1 h2; first | (exfalso; omega) | rfl⟩
            · show tt Zi d 199 (40, [some (.inr (.inl 30)), some (.inl a_), some (.inl x), some (.inl y)], [.inr (.inl 30)], n, D, s, p, c) _
              refine tt_k 3 (S' := (45, [some (.inr (.inl 30)), some (.inl a_), some (.inl x), some (.inl y)], [.inl (s 3009), .inl y, .inr (.inl 30)], n, D, s, p, c)) rfl ?_
              refine tb_ge (x := y) (y := (s 3009)) rfl rfl (by omega) (fun h16 => ?_) (fun h16 => ?_)
              · show tt Zi d 199 (52, [some (.inr (.inl 30)), some (.inl a_), some (.inl x), some (.inl y)], [.inr (.inl 30)], n, D, s, p, c) _
                refine tt_k 4 (S' := (60, [some (.inr (.inl 30)), some (.inl a_), some (.inl x), some (.inl y)], [.inl 2], n, D, (us s 3000 2), p, c)) rfl ?_
                refine tz_le (x := 2) rfl rfl (by omega) (fun h17 => ?_) (fun h17 => ?_)
                · exfalso; omega
                · show tt Zi d 199 (63, [some (.inr (.inl 30)), some (.inl a_), some (.inl x), some (.inl y)], [], n, D, (us s 3000 2), p, c) _
                  refine tt_k 2 (S' := (84, [some (.inr (.inl 30)), some (.inl a_), some (.inl x), some (.inl y)], [.inl 0], n, D, (us s 3000 2), p, c)) rfl ?_
                  exact tt_rti rfl rfl ⟨(us s 3000 2), 0, rfl, rfl, (bS_us hS (show 0 ≤ 2 ∧ 2 ≤ 2 by omega)), (fr_us (by decide) fr_rf), by omega, by show 2 = (if s 3007 = 1 then (if (0 ≤ a_ ∧ a_ < s 3010) ∧ (0 ≤ x ∧ x < s 3008) ∧ (0 ≤ y ∧ y < s 3009) then 0 else 2) else 1); (repeat' split) <;> omega, by show s 3007 = 1 → ((0 ≤ a_ ∧ a_ < s 3010) ∧ (0 ≤ x ∧ x < s 3008) ∧ (0 ≤ y ∧ y < s 3009)) → 0 = c 33 (4096 * a_ + 64 * y + x).toNat; intro h1 h2; first | (exfalso; omega) | rfl⟩
              · show tt Zi d 199 (48, [some (.inr (.inl 30)), some (.inl a_), some (.inl x), some (.inl y)], [.inr (.inl 30)], n, D, s, p, c) _
                refine tt_k 5 (S' := (60, [some (.inr (.inl 30)), some (.inl a_), some (.inl x), some (.inl y)], [.inl 0], n, D, (us s 3000 0), p, c)) rfl ?_
                refine tz_le (x := 0) rfl rfl (by omega) (fun h18 => ?_) (fun h18 => ?_)
                · show tt Zi d 199 (67, [some (.inr (.inl 30)), some (.inl a_), some (.inl x), some (.inl y)], [], n, D, (us s 3000 0), p, c) _
                  refine tt_k 11 (S' := (83, [some (.inr (.inl 30)), some (.inl a_), some (.inl x), some (.inl y)], [.inl ((((4096 * a_) + (64 * y)) + x)), .inr (.inl 33)], n, D, (us s 3000 0), p, c)) rfl ?_
                  refine tt_ildv (i := (((4096 * a_) + (64 * y)) + x)) (v := (c 33 ((((4096 * a_) + (64 * y)) + x)).toNat)) rfl rfl (by omega) rfl ?_
                  show tt Zi d 199 (84, [some (.inr (.inl 30)), some (.inl a_), some (.inl x), some (.inl y)], [.inl ((c 33 ((((4096 * a_) + (64 * y)) + x)).toNat))], n, D, (us s 3000 0), p, c) _
                  have b19 : 0 ≤ (c 33 ((((4096 * a_) + (64 * y)) + x)).toNat) ∧ (c 33 ((((4096 * a_) + (64 * y)) + x)).toNat) ≤ 65535 := hC 33 _
                  exact tt_rti rfl rfl ⟨(us s 3000 0), (c 33 ((((4096 * a_) + (64 * y)) + x)).toNat), rfl, rfl, (bS_us hS (show 0 ≤ 0 ∧ 0 ≤ 2 by omega)), (fr_us (by decide) fr_rf), by omega, by show 0 = (if s 3007 = 1 then (if (0 ≤ a_ ∧ a_ < s 3010) ∧ (0 ≤ x ∧ x < s 3008) ∧ (0 ≤ y ∧ y < s 3009) then 0 else 2) else 1); (repeat' split) <;> omega, by show s 3007 = 1 → ((0 ≤ a_ ∧ a_ < s 3010) ∧ (0 ≤ x ∧ x < s 3008) ∧ (0 ≤ y ∧ y < s 3009)) → ((c 33 ((((4096 * a_) + (64 * y)) + x)).toNat)) = c 33 (4096 * a_ + 64 * y + x).toNat; intro h1 h2; first | (exfalso; omega) | rfl⟩
                · exfalso; omega
  · show tt Zi d 199 (8, [some (.inr (.inl 30)), some (.inl a_), some (.inl x), some (.inl y)], [.inr (.inl 30)], n, D, s, p, c) _
    refine tt_k 5 (S' := (60, [some (.inr (.inl 30)), some (.inl a_), some (.inl x), some (.inl y)], [.inl 1], n, D, (us s 3000 1), p, c)) rfl ?_
    refine tz_le (x := 1) rfl rfl (by omega) (fun h20 => ?_) (fun h20 => ?_)
    · exfalso; omega
    · show tt Zi d 199 (63, [some (.inr (.inl 30)), some (.inl a_), some (.inl x), some (.inl y)], [], n, D, (us s 3000 1), p, c) _
      refine tt_k 2 (S' := (84, [some (.inr (.inl 30)), some (.inl a_), some (.inl x), some (.inl y)], [.inl 0], n, D, (us s 3000 1), p, c)) rfl ?_
      exact tt_rti rfl rfl ⟨(us s 3000 1), 0, rfl, rfl, (bS_us hS (show 0 ≤ 1 ∧ 1 ≤ 2 by omega)), (fr_us (by decide) fr_rf), by omega, by show 1 = (if s 3007 = 1 then (if (0 ≤ a_ ∧ a_ < s 3010) ∧ (0 ≤ x ∧ x < s 3008) ∧ (0 ≤ y ∧ y < s 3009) then 0 else 2) else 1); (repeat' split) <;> omega, by show s 3007 = 1 → ((0 ≤ a_ ∧ a_ < s 3010) ∧ (0 ≤ x ∧ x < s 3008) ∧ (0 ≤ y ∧ y < s 3009)) → 0 = c 33 (4096 * a_ + 64 * y + x).toNat; intro h1 h2; first | (exfalso; omega) | rfl⟩
set_option maxRecDepth 100000 in
set_option maxHeartbeats 4000000 in
theorem y_learned {Zi : Nat → Option (Nat × (Nat → Int))} {d n : Nat} {D : Nat → Nat × Nat} {s : Nat → Int} {p : Nat → Nat} {c : Nat → Nat → Int} (hd : 0 ≤ d) (hS : bS s) (hC : bC D c) (i : Int) (j : Int) (b_i : -2147483648 ≤ i ∧ i ≤ 2147483647) (b_j : -2147483648 ≤ j ∧ j ≤ 2147483647) : tt Zi d 200 (0, [some (.inr (.inl 30)), some (.inl i), some (.inl j)], [], n, D, s, p, c) (fun R H => ∃ (s' : Nat → Int) (r : Int), R = .inl (some (.inl r)) ∧ H = (n, D, s', p, c) ∧ bS s' ∧ fr s s' [3000] ∧ (-2147483648 ≤ r ∧ r ≤ 2147483647) ∧ (s' 3000 = (if 0 ≤ i ∧ i ≤ 366 then (if 0 ≤ j ∧ j ≤ 3 then 0 else 2) else 1)) ∧ ((0 ≤ i ∧ i ≤ 366) → (0 ≤ j ∧ j ≤ 3) → r = lrR j (c 40 i.toNat) (c 41 i.toNat) (c 42 i.toNat) (c 43 i.toNat))) := by
  refine tt_k 2 (S' := (2, [some (.inr (.inl 30)), some (.inl i), some (.inl j)], [.inl i, .inr (.inl 30)], n, D, s, p, c)) rfl ?_
  refine tz_lt (x := i) rfl rfl (by omega) (fun h1 => ?_) (fun h1 => ?_)
  · show tt Zi d 200 (12, [some (.inr (.inl 30)), some (.inl i), some (.inl j)], [.inr (.inl 30)], n, D, s, p, c) _
    refine tt_k 5 (S' := (37, [some (.inr (.inl 30)), some (.inl i), some (.inl j)], [.inl 1], n, D, (us s 3000 1), p, c)) rfl ?_
    refine tz_le (x := 1) rfl rfl (by omega) (fun h2 => ?_) (fun h2 => ?_)
    · exfalso; omega
    · show tt Zi d 200 (40, [some (.inr (.inl 30)), some (.inl i), some (.inl j)], [], n, D, (us s 3000 1), p, c) _
      refine tt_k 2 (S' := (91, [some (.inr (.inl 30)), some (.inl i), some (.inl j)], [.inl 0], n, D, (us s 3000 1), p, c)) rfl ?_
      exact tt_rti rfl rfl ⟨(us s 3000 1), 0, rfl, rfl, (bS_us hS (show 0 ≤ 1 ∧ 1 ≤ 2 by omega)), (fr_us (by decide) fr_rf), by omega, by show 1 = (if 0 ≤ i ∧ i ≤ 366 then (if 0 ≤ j ∧ j ≤ 3 then 0 else 2) else 1); (repeat' split) <;> omega, by show (0 ≤ i ∧ i ≤ 366) → (0 ≤ j ∧ j ≤ 3) → 0 = lrR j (c 40 i.toNat) (c 41 i.toNat) (c 42 i.toNat) (c 43 i.toNat); intro h1 h2; unfold lrR; first | (exfalso; omega) | (rw [if_pos (by omega)]; done) | (rw [if_neg (by omega), if_pos (by omega)]; done) | (rw [if_neg (by omega), if_neg (by omega), if_pos (by omega)]; done) | (rw [if_neg (by omega), if_neg (by omega), if_neg (by omega)]; done)⟩
  · show tt Zi d 200 (5, [some (.inr (.inl 30)), some (.inl i), some (.inl j)], [.inr (.inl 30)], n, D, s, p, c) _
    refine tt_k 2 (S' := (9, [some (.inr (.inl 30)), some (.inl i), some (.inl j)], [.inl 366, .inl i, .inr (.inl 30)], n, D, s, p, c)) rfl ?_
    refine tb_le (x := i) (y := 366) rfl rfl (by omega) (fun h3 => ?_) (fun h3 => ?_)
    · show tt Zi d 200 (16, [some (.inr (.inl 30)), some (.inl i), some (.inl j)], [.inr (.inl 30)], n, D, s, p, c) _
      refine tt_k 1 (S' := (17, [some (.inr (.inl 30)), some (.inl i), some (.inl j)], [.inl j, .inr (.inl 30)], n, D, s, p, c)) rfl ?_
      refine tz_lt (x := j) rfl rfl (by omega) (fun h4 => ?_) (fun h4 => ?_)
      · show tt Zi d 200 (25, [some (.inr (.inl 30)), some (.inl i), some (.inl j)], [.inr (.inl 30)], n, D, s, p, c) _
        refine tt_k 5 (S' := (37, [some (.inr (.inl 30)), some (.inl i), some (.inl j)], [.inl 2], n, D, (us s 3000 2), p, c)) rfl ?_
        refine tz_le (x := 2) rfl rfl (by omega) (fun h5 => ?_) (fun h5 => ?_)
        · exfalso; omega
        · show tt Zi d 200 (40, [some (.inr (.inl 30)), some (.inl i), some (.inl j)], [], n, D, (us s 3000 2), p, c) _
          refine tt_k 2 (S' := (91, [some (.inr (.inl 30)), some (.inl i), some (.inl j)], [.inl 0], n, D, (us s 3000 2), p, c)) rfl ?_
          exact tt_rti rfl rfl ⟨(us s 3000 2), 0, rfl, rfl, (bS_us hS (show 0 ≤ 2 ∧ 2 ≤ 2 by omega)), (fr_us (by decide) fr_rf), by omega, by show 2 = (if 0 ≤ i ∧ i ≤ 366 then (if 0 ≤ j ∧ j ≤ 3 then 0 else 2) else 1); (repeat' split) <;> omega, by show (0 ≤ i ∧ i ≤ 366) → (0 ≤ j ∧ j ≤ 3) → 0 = lrR j (c 40 i.toNat) (c 41 i.toNat) (c 42 i.toNat) (c 43 i.toNat); intro h1 h2; unfold lrR; first | (exfalso; omega) | (rw [if_pos (by omega)]; done) | (rw [if_neg (by omega), if_pos (by omega)]; done) | (rw [if_neg (by omega), if_neg (by omega), if_pos (by omega)]; done) | (rw [if_neg (by omega), if_neg (by omega), if_neg (by omega)]; done)⟩
      · show tt Zi d 200 (20, [some (.inr (.inl 30)), some (.inl i), some (.inl j)], [.inr (.inl 30)], n, D, s, p, c) _
        refine tt_k 2 (S' := (22, [some (.inr (.inl 30)), some (.inl i), some (.inl j)], [.inl 3, .inl j, .inr (.inl 30)], n, D, s, p, c)) rfl ?_
        refine tb_le (x := j) (y := 3) rfl rfl (by omega) (fun h6 => ?_) (fun h6 => ?_)
        · show tt Zi d 200 (29, [some (.inr (.inl 30)), some (.inl i), some (.inl j)], [.inr (.inl 30)], n, D, s, p, c) _
          refine tt_k 4 (S' := (37, [some (.inr (.inl 30)), some (.inl i), some (.inl j)], [.inl 0], n, D, (us s 3000 0), p, c)) rfl ?_
          refine tz_le (x := 0) rfl rfl (by omega) (fun h7 => ?_) (fun h7 => ?_)
          · show tt Zi d 200 (44, [some (.inr (.inl 30)), some (.inl i), some (.inl j)], [], n, D, (us s 3000 0), p, c) _
            refine tt_k 1 (S' := (45, [some (.inr (.inl 30)), some (.inl i), some (.inl j)], [.inl j], n, D, (us s 3000 0), p, c)) rfl ?_
            refine tz_ne (x := j) rfl rfl (by omega) (fun h8 => ?_) (fun h8 => ?_)
            · show tt Zi d 200 (57, [some (.inr (.inl 30)), some (.inl i), some (.inl j)], [], n, D, (us s 3000 0), p, c) _
              refine tt_k 2 (S' := (59, [some (.inr (.inl 30)), some (.inl i), some (.inl j)], [.inl 1, .inl j], n, D, (us s 3000 0), p, c)) rfl ?_
              refine tb_ne (x := j) (y := 1) rfl rfl (by omega) (fun h9 => ?_) (fun h9 => ?_)
              · show tt Zi d 200 (71, [some (.inr (.inl 30)), some (.inl i), some (.inl j)], [], n, D, (us s 3000 0), p, c) _
                refine tt_k 2 (S' := (73, [some (.inr (.inl 30)), some (.inl i), some (.inl j)], [.inl 2, .inl j], n, D, (us s 3000 0), p, c)) rfl ?_
                refine tb_ne (x := j) (y := 2) rfl rfl (by omega) (fun h10 => ?_) (fun h10 => ?_)
                · show tt Zi d 200 (85, [some (.inr (.inl 30)), some (.inl i), some (.inl j)], [], n, D, (us s 3000 0), p, c) _
                  refine tt_k 3 (S' := (90, [some (.inr (.inl 30)), some (.inl i), some (.inl j)], [.inl i, .inr (.inl 43)], n, D, (us s 3000 0), p, c)) rfl ?_
                  refine tt_ildv (i := i) (v := (c 43 (i).toNat)) rfl rfl (by omega) rfl ?_
                  show tt Zi d 200 (91, [some (.inr (.inl 30)), some (.inl i), some (.inl j)], [.inl (c 43 (i).toNat)], n, D, (us s 3000 0), p, c) _
                  have b11 : -2147483648 ≤ (c 43 (i).toNat) ∧ (c 43 (i).toNat) ≤ 2147483647 := hC 43 _
                  exact tt_rti rfl rfl ⟨(us s 3000 0), (c 43 (i).toNat), rfl, rfl, (bS_us hS (show 0 ≤ 0 ∧ 0 ≤ 2 by omega)), (fr_us (by decide) fr_rf), by omega, by show 0 = (if 0 ≤ i ∧ i ≤ 366 then (if 0 ≤ j ∧ j ≤ 3 then 0 else 2) else 1); (repeat' split) <;> omega, by show (0 ≤ i ∧ i ≤ 366) → (0 ≤ j ∧ j ≤ 3) → (c 43 (i).toNat) = lrR j (c 40 i.toNat) (c 41 i.toNat) (c 42 i.toNat) (c 43 i.toNat); intro h1 h2; unfold lrR; first | (exfalso; omega) | (rw [if_pos (by omega)]; done) | (rw [if_neg (by omega), if_pos (by omega)]; done) | (rw [if_neg (by omega), if_neg (by omega), if_pos (by omega)]; done) | (rw [if_neg (by omega), if_neg (by omega), if_neg (by omega)]; done)⟩
                · show tt Zi d 200 (76, [some (.inr (.inl 30)), some (.inl i), some (.inl j)], [], n, D, (us s 3000 0), p, c) _
                  refine tt_k 3 (S' := (81, [some (.inr (.inl 30)), some (.inl i), some (.inl j)], [.inl i, .inr (.inl 42)], n, D, (us s 3000 0), p, c)) rfl ?_
                  refine tt_ildv (i := i) (v := (c 42 (i).toNat)) rfl rfl (by omega) rfl ?_
                  show tt Zi d 200 (82, [some (.inr (.inl 30)), some (.inl i), some (.inl j)], [.inl (c 42 (i).toNat)], n, D, (us s 3000 0), p, c) _
                  have b12 : -2147483648 ≤ (c 42 (i).toNat) ∧ (c 42 (i).toNat) ≤ 2147483647 := hC 42 _
                  refine tt_k 1 (S' := (91, [some (.inr (.inl 30)), some (.inl i), some (.inl j)], [.inl (c 42 (i).toNat)], n, D, (us s 3000 0), p, c)) rfl ?_
                  exact tt_rti rfl rfl ⟨(us s 3000 0), (c 42 (i).toNat), rfl, rfl, (bS_us hS (show 0 ≤ 0 ∧ 0 ≤ 2 by omega)), (fr_us (by decide) fr_rf), by omega, by show 0 = (if 0 ≤ i ∧ i ≤ 366 then (if 0 ≤ j ∧ j ≤ 3 then 0 else 2) else 1); (repeat' split) <;> omega, by show (0 ≤ i ∧ i ≤ 366) → (0 ≤ j ∧ j ≤ 3) → (c 42 (i).toNat) = lrR j (c 40 i.toNat) (c 41 i.toNat) (c 42 i.toNat) (c 43 i.toNat); intro h1 h2; unfold lrR; first | (exfalso; omega) | (rw [if_pos (by omega)]; done) | (rw [if_neg (by omega), if_pos (by omega)]; done) | (rw [if_neg (by omega), if_neg (by omega), if_pos (by omega)]; done) | (rw [if_neg (by omega), if_neg (by omega), if_neg (by omega)]; done)⟩
              · show tt Zi d 200 (62, [some (.inr (.inl 30)), some (.inl i), some (.inl j)], [], n, D, (us s 3000 0), p, c) _
                refine tt_k 3 (S' := (67, [some (.inr (.inl 30)), some (.inl i), some (.inl j)], [.inl i, .inr (.inl 41)], n, D, (us s 3000 0), p, c)) rfl ?_
                refine tt_ildv (i := i) (v := (c 41 (i).toNat)) rfl rfl (by omega) rfl ?_
                show tt Zi d 200 (68, [some (.inr (.inl 30)), some (.inl i), some (.inl j)], [.inl (c 41 (i).toNat)], n, D, (us s 3000 0), p, c) _
                have b13 : -2147483648 ≤ (c 41 (i).toNat) ∧ (c 41 (i).toNat) ≤ 2147483647 := hC 41 _
                refine tt_k 1 (S' := (91, [some (.inr (.inl 30)), some (.inl i), some (.inl j)], [.inl (c 41 (i).toNat)], n, D, (us s 3000 0), p, c)) rfl ?_
                exact tt_rti rfl rfl ⟨(us s 3000 0), (c 41 (i).toNat), rfl, rfl, (bS_us hS (show 0 ≤ 0 ∧ 0 ≤ 2 by omega)), (fr_us (by decide) fr_rf), by omega, by show 0 = (if 0 ≤ i ∧ i ≤ 366 then (if 0 ≤ j ∧ j ≤ 3 then 0 else 2) else 1); (repeat' split) <;> omega, by show (0 ≤ i ∧ i ≤ 366) → (0 ≤ j ∧ j ≤ 3) → (c 41 (i).toNat) = lrR j (c 40 i.toNat) (c 41 i.toNat) (c 42 i.toNat) (c 43 i.toNat); intro h1 h2; unfold lrR; first | (exfalso; omega) | (rw [if_pos (by omega)]; done) | (rw [if_neg (by omega), if_pos (by omega)]; done) | (rw [if_neg (by omega), if_neg (by omega), if_pos (by omega)]; done) | (rw [if_neg (by omega), if_neg (by omega), if_neg (by omega)]; done)⟩
            · show tt Zi d 200 (48, [some (.inr (.inl 30)), some (.inl i), some (.inl j)], [], n, D, (us s 3000 0), p, c) _
              refine tt_k 3 (S' := (53, [some (.inr (.inl 30)), some (.inl i), some (.inl j)], [.inl i, .inr (.inl 40)], n, D, (us s 3000 0), p, c)) rfl ?_
              refine tt_ildv (i := i) (v := (c 40 (i).toNat)) rfl rfl (by omega) rfl ?_
              show tt Zi d 200 (54, [some (.inr (.inl 30)), some (.inl i), some (.inl j)], [.inl (c 40 (i).toNat)], n, D, (us s 3000 0), p, c) _
              have b14 : -2147483648 ≤ (c 40 (i).toNat) ∧ (c 40 (i).toNat) ≤ 2147483647 := hC 40 _
              refine tt_k 1 (S' := (91, [some (.inr (.inl 30)), some (.inl i), some (.inl j)], [.inl (c 40 (i).toNat)], n, D, (us s 3000 0), p, c)) rfl ?_
              exact tt_rti rfl rfl ⟨(us s 3000 0), (c 40 (i).toNat), rfl, rfl, (bS_us hS (show 0 ≤ 0 ∧ 0 ≤ 2 by omega)), (fr_us (by decide) fr_rf), by omega, by show 0 = (if 0 ≤ i ∧ i ≤ 366 then (if 0 ≤ j ∧ j ≤ 3 then 0 else 2) else 1); (repeat' split) <;> omega, by show (0 ≤ i ∧ i ≤ 366) → (0 ≤ j ∧ j ≤ 3) → (c 40 (i).toNat) = lrR j (c 40 i.toNat) (c 41 i.toNat) (c 42 i.toNat) (c 43 i.toNat); intro h1 h2; unfold lrR; first | (exfalso; omega) | (rw [if_pos (by omega)]; done) | (rw [if_neg (by omega), if_pos (by omega)]; done) | (rw [if_neg (by omega), if_neg (by omega), if_pos (by omega)]; done) | (rw [if_neg (by omega), if_neg (by omega), if_neg (by omega)]; done)⟩
          · exfalso; omega
        · show tt Zi d 200 (25, [some (.inr (.inl 30)), some (.inl i), some (.inl j)], [.inr (.inl 30)], n, D, s, p, c) _
          refine tt_k 5 (S' := (37, [some (.inr (.inl 30)), some (.inl i), some (.inl j)], [.inl 2], n, D, (us s 3000 2), p, c)) rfl ?_
          refine tz_le (x := 2) rfl rfl (by omega) (fun h15 => ?_) (fun h15 => ?_)
          · exfalso; omega
          · show tt Zi d 200 (40, [some (.inr (.inl 30)), some (.inl i), some (.inl j)], [], n, D, (us s 3000 2), p, c) _
            refine tt_k 2 (S' := (91, [some (.inr (.inl 30)), some (.inl i), some (.inl j)], [.inl 0], n, D, (us s 3000 2), p, c)) rfl ?_
            exact tt_rti rfl rfl ⟨(us s 3000 2), 0, rfl, rfl, (bS_us hS (show 0 ≤ 2 ∧ 2 ≤ 2 by omega)), (fr_us (by decide) fr_rf), by omega, by show 2 = (if 0 ≤ i ∧ i ≤ 366 then (if 0 ≤ j ∧ j ≤ 3 then 0 else 2) else 1); (repeat' split) <;> omega, by show (0 ≤ i ∧ i ≤ 366) → (0 ≤ j ∧ j ≤ 3) → 0 = lrR j (c 40 i.toNat) (c 41 i.toNat) (c 42 i.toNat) (c 43 i.toNat); intro h1 h2; unfold lrR; first | (exfalso; omega) | (rw [if_pos (by omega)]; done) | (rw [if_neg (by omega), if_pos (by omega)]; done) | (rw [if_neg (by omega), if_neg (by omega), if_pos (by omega)]; done) | (rw [if_neg (by omega), if_neg (by omega), if_neg (by omega)]; done)⟩
    · show tt Zi d 200 (12, [some (.inr (.inl 30)), some (.inl i), some (.inl j)], [.inr (.inl 30)], n, D, s, p, c) _
      refine tt_k 5 (S' := (37, [some (.inr (.inl 30)), some (.inl i), some (.inl j)], [.inl 1], n, D, (us s 3000 1), p, c)) rfl ?_
      refine tz_le (x := 1) rfl rfl (by omega) (fun h16 => ?_) (fun h16 => ?_)
      · exfalso; omega
      · show tt Zi d 200 (40, [some (.inr (.inl 30)), some (.inl i), some (.inl j)], [], n, D, (us s 3000 1), p, c) _
        refine tt_k 2 (S' := (91, [some (.inr (.inl 30)), some (.inl i), some (.inl j)], [.inl 0], n, D, (us s 3000 1), p, c)) rfl ?_
        exact tt_rti rfl rfl ⟨(us s 3000 1), 0, rfl, rfl, (bS_us hS (show 0 ≤ 1 ∧ 1 ≤ 2 by omega)), (fr_us (by decide) fr_rf), by omega, by show 1 = (if 0 ≤ i ∧ i ≤ 366 then (if 0 ≤ j ∧ j ≤ 3 then 0 else 2) else 1); (repeat' split) <;> omega, by show (0 ≤ i ∧ i ≤ 366) → (0 ≤ j ∧ j ≤ 3) → 0 = lrR j (c 40 i.toNat) (c 41 i.toNat) (c 42 i.toNat) (c 43 i.toNat); intro h1 h2; unfold lrR; first | (exfalso; omega) | (rw [if_pos (by omega)]; done) | (rw [if_neg (by omega), if_pos (by omega)]; done) | (rw [if_neg (by omega), if_neg (by omega), if_pos (by omega)]; done) | (rw [if_neg (by omega), if_neg (by omega), if_neg (by omega)]; done)⟩
