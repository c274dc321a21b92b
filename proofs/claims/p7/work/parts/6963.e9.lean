/-! the class's measures of a scan, its headers, exactly -/
def p3 (a b c i : Int) : Int := if i = 0 then a else if i = 1 then b else c
theorem p3_of {f : Nat → Int} {a b c i : Int} (h : f 0 = a ∧ f 1 = b ∧ f 2 = c) (hi : 0 ≤ i ∧ i ≤ 2) : f i.toNat = p3 a b c i := by
  obtain ⟨h0, h1, h2⟩ := h
  unfold p3
  have e : i = 0 ∨ i = 1 ∨ i = 2 := by omega
  rcases e with rfl | rfl | rfl
  · exact h0
  · exact h1
  · exact h2
theorem z5_no {f : Nat → Int} {i : Int} (h : f 0 = 0 ∧ f 1 = 0 ∧ f 2 = 0 ∧ f 3 = 0 ∧ f 4 = 0) (hi : 0 ≤ i ∧ i < 5) (hn : f i.toNat ≠ 0) : False := by
  obtain ⟨h0, h1, h2, h3, h4⟩ := h
  have e : i = 0 ∨ i = 1 ∨ i = 2 ∨ i = 3 ∨ i = 4 := by omega
  rcases e with rfl | rfl | rfl | rfl | rfl
  · exact hn h0
  · exact hn h1
  · exact hn h2
  · exact hn h3
  · exact hn h4
theorem z5_of {f : Nat → Int} (h : ∀ j : Int, 0 ≤ j → j < 5 → f j.toNat = 0) : f 0 = 0 ∧ f 1 = 0 ∧ f 2 = 0 ∧ f 3 = 0 ∧ f 4 = 0 := ⟨h 0 (by decide) (by decide), h 1 (by decide) (by decide), h 2 (by decide) (by decide), h 3 (by decide) (by decide), h 4 (by decide) (by decide)⟩
set_option maxRecDepth 100000 in
set_option maxHeartbeats 4000000 in
theorem e_plain {g : Nat → Int} {Zi : Nat → Option (Nat × (Nat → Int))} {d n q : Nat} {D : Nat → Nat × Nat} {s : Nat → Int} {p : Nat → Nat} {c : Nat → Nat → Int} (hd : 0 ≤ d) (hz : zk Zi) (hq : q + 0 ≤ 400000) (hD : wd n p) (hS : bS s) (hC : bC D c) (hW : wp q g n D p s) (i : Int) (least : Int) (b_i : 0 ≤ i ∧ i ≤ 2) (b_least : -2147483648 ≤ least ∧ least ≤ 2147483647) (hp0 : 0 ≤ s 801 ∧ s 801 ≤ 255) (hp1 : 1 ≤ s 800) : tt Zi d 29 (0, [some (.inr (.inl 8)), some (.inl i), some (.inl least), none, none], [], n, D, s, p, c) (fun R H => ∃ (r : Int), R = .inl (some (.inl r)) ∧ H = (n, D, s, p, c) ∧ (-2147483648 ≤ r ∧ r ≤ 2147483647) ∧ (r = zPl (zPt (p3 3 7 21 i) (p3 2 3 4 i) (p3 3 5 7 i) (s 800) (s 801)) least (s 800))) := by
  refine tt_k 3 (S' := (7, [some (.inr (.inl 8)), some (.inl i), some (.inl least), none, none], [.inl 128, .inl (s 800)], n, D, s, p, c)) rfl ?_
  have b1 : 0 ≤ (s 800) ∧ (s 800) ≤ 65535 := hS 800
  refine tb_lt (x := (s 800)) (y := 128) rfl rfl (by omega) (fun h2 => ?_) (fun h2 => ?_)
  · show tt Zi d 29 (65, [some (.inr (.inl 8)), some (.inl i), some (.inl least), none, none], [], n, D, s, p, c) _
    refine tt_k 5 (S' := (74, [some (.inr (.inl 8)), some (.inl i), some (.inl least), none, none], [.inl ((s 800) + 1), .inl 256], n, D, s, p, c)) rfl ?_
    refine tt_dvp (x := 256) (y := ((s 800) + 1)) rfl (by omega) ?_
    show tt Zi d 29 (75, [some (.inr (.inl 8)), some (.inl i), some (.inl least), none, none], [.inl ((256 / ((s 800) + 1)))], n, D, s, p, c) _
    have b3 : 0 ≤ (256 / ((s 800) + 1)) ∧ (256 / ((s 800) + 1)) ≤ 256 := td_le (by omega) (by omega)
    have b4 : 1 ≤ (256 / ((s 800) + 1)) := dv_ge1 (by omega) (by omega)
    refine tt_k 3 (S' := (81, [some (.inr (.inl 8)), some (.inl i), some (.inl least), none, some (.inl ((256 / ((s 800) + 1))))], [.inl i, .inr (.inl (1000000 + 1))], n, D, s, p, c)) rfl ?_
    obtain ⟨f7, hz8, hz8b⟩ := hz.2.1
    refine tt_stat (j := 1) (i := i) rfl hz8 (by omega) ?_
    show tt Zi d 29 (82, [some (.inr (.inl 8)), some (.inl i), some (.inl least), none, some (.inl ((256 / ((s 800) + 1))))], [.inl (f7 (i).toNat)], n, D, s, p, c) _
    generalize hvv5 : f7 (i).toNat = v5
    have b6 : 0 ≤ v5 ∧ v5 ≤ 100 := by rw [← hvv5]; exact hz8b _
    show tt Zi d 29 (82, [some (.inr (.inl 8)), some (.inl i), some (.inl least), none, some (.inl ((256 / ((s 800) + 1))))], [.inl v5], n, D, s, p, c) _
    have hstv5 : v5 = p3 2 3 4 i := by rw [← hvv5]; exact p3_of (hz.2.2.2.2.2.1 f7 hz8) (by omega)
    refine tt_k 2 (S' := (86, [some (.inr (.inl 8)), some (.inl i), some (.inl least), none, some (.inl ((256 / ((s 800) + 1))))], [.inl i, .inr (.inl (1000000 + 0)), .inl v5], n, D, s, p, c)) rfl ?_
    obtain ⟨f11, hz12, hz12b⟩ := hz.1
    refine tt_stat (j := 0) (i := i) rfl hz12 (by omega) ?_
    show tt Zi d 29 (87, [some (.inr (.inl 8)), some (.inl i), some (.inl least), none, some (.inl ((256 / ((s 800) + 1))))], [.inl (f11 (i).toNat), .inl v5], n, D, s, p, c) _
    generalize hvv9 : f11 (i).toNat = v9
    have b10 : 0 ≤ v9 ∧ v9 ≤ 100 := by rw [← hvv9]; exact hz12b _
    show tt Zi d 29 (87, [some (.inr (.inl 8)), some (.inl i), some (.inl least), none, some (.inl ((256 / ((s 800) + 1))))], [.inl v9, .inl v5], n, D, s, p, c) _
    have hstv9 : v9 = p3 3 7 21 i := by rw [← hvv9]; exact p3_of (hz.2.2.2.2.1 f11 hz12) (by omega)
    refine tt_k 1 (S' := (89, [some (.inr (.inl 8)), some (.inl i), some (.inl least), none, some (.inl ((256 / ((s 800) + 1))))], [.inl ((256 / ((s 800) + 1))), .inl v9, .inl v5], n, D, s, p, c)) rfl ?_
    refine tt_dvp (x := v9) (y := (256 / ((s 800) + 1))) rfl (by omega) ?_
    show tt Zi d 29 (90, [some (.inr (.inl 8)), some (.inl i), some (.inl least), none, some (.inl ((256 / ((s 800) + 1))))], [.inl ((v9 / (256 / ((s 800) + 1)))), .inl v5], n, D, s, p, c) _
    have b13 : 0 ≤ (v9 / (256 / ((s 800) + 1))) ∧ (v9 / (256 / ((s 800) + 1))) ≤ v9 := td_le (by omega) (by omega)
    refine tt_k 2 (S' := (94, [some (.inr (.inl 8)), some (.inl i), some (.inl least), none, some (.inl ((256 / ((s 800) + 1))))], [.inl i, .inr (.inl (1000000 + 2)), .inl ((v9 / (256 / ((s 800) + 1)))), .inl v5], n, D, s, p, c)) rfl ?_
    obtain ⟨f16, hz17, hz17b⟩ := hz.2.2.1
    refine tt_stat (j := 2) (i := i) rfl hz17 (by omega) ?_
    show tt Zi d 29 (95, [some (.inr (.inl 8)), some (.inl i), some (.inl least), none, some (.inl ((256 / ((s 800) + 1))))], [.inl (f16 (i).toNat), .inl ((v9 / (256 / ((s 800) + 1)))), .inl v5], n, D, s, p, c) _
    generalize hvv14 : f16 (i).toNat = v14
    have b15 : 0 ≤ v14 ∧ v14 ≤ 100 := by rw [← hvv14]; exact hz17b _
    show tt Zi d 29 (95, [some (.inr (.inl 8)), some (.inl i), some (.inl least), none, some (.inl ((256 / ((s 800) + 1))))], [.inl v14, .inl ((v9 / (256 / ((s 800) + 1)))), .inl v5], n, D, s, p, c) _
    have hstv14 : v14 = p3 3 5 7 i := by rw [← hvv14]; exact p3_of (hz.2.2.2.2.2.2.1 f16 hz17) (by omega)
    refine tt_k 4 (S' := (101, [some (.inr (.inl 8)), some (.inl i), some (.inl least), none, some (.inl ((256 / ((s 800) + 1))))], [.inl (((v9 / (256 / ((s 800) + 1))) + (v14 * (s 801)))), .inl v5], n, D, s, p, c)) rfl ?_
    have b18 : -2147483648 ≤ (s 801) ∧ (s 801) ≤ 2147483647 := hS 801
    have m19 := mul_bd (e := v14) (st := (s 801)) (a := 100) (b := 255) (by omega) (by omega) (by omega) (by omega) (by omega)
    refine tt_max (k := 0) (x := v5) (y := ((v9 / (256 / ((s 800) + 1))) + (v14 * (s 801)))) rfl rfl (Nat.le_of_ble_eq_true rfl) (by omega) ?_
    refine tt_k 1 (S' := (105, [some (.inr (.inl 8)), some (.inl i), some (.inl least), some (.inl ((max v5 ((v9 / (256 / ((s 800) + 1))) + (v14 * (s 801)))))), some (.inl ((256 / ((s 800) + 1))))], [], n, D, s, p, c)) rfl ?_
    have hpl : (max v5 ((v9 / (256 / ((s 800) + 1))) + (v14 * (s 801)))) = (zPt (p3 3 7 21 i) (p3 2 3 4 i) (p3 3 5 7 i) (s 800) (s 801)) := by unfold zPt; first | (rw [if_pos (show s 800 < 128 by omega), hstv5, hstv9, hstv14]) | (rw [if_neg (show ¬ s 800 < 128 by omega), hstv5, hstv9, hstv14])
    refine tt_k 2 (S' := (107, [some (.inr (.inl 8)), some (.inl i), some (.inl least), some (.inl ((max v5 ((v9 / (256 / ((s 800) + 1))) + (v14 * (s 801)))))), some (.inl ((256 / ((s 800) + 1))))], [.inl least, .inl ((max v5 ((v9 / (256 / ((s 800) + 1))) + (v14 * (s 801)))))], n, D, s, p, c)) rfl ?_
    refine tb_lt (x := (max v5 ((v9 / (256 / ((s 800) + 1))) + (v14 * (s 801))))) (y := least) rfl rfl (by omega) (fun h20 => ?_) (fun h20 => ?_)
    · show tt Zi d 29 (118, [some (.inr (.inl 8)), some (.inl i), some (.inl least), some (.inl ((max v5 ((v9 / (256 / ((s 800) + 1))) + (v14 * (s 801)))))), some (.inl ((256 / ((s 800) + 1))))], [], n, D, s, p, c) _
      refine tt_k 2 (S' := (123, [some (.inr (.inl 8)), some (.inl i), some (.inl least), some (.inl ((max v5 ((v9 / (256 / ((s 800) + 1))) + (v14 * (s 801)))))), some (.inl ((256 / ((s 800) + 1))))], [.inl least], n, D, s, p, c)) rfl ?_
      exact tt_rti rfl rfl ⟨least, rfl, rfl, by omega, by show least = zPl (zPt (p3 3 7 21 i) (p3 2 3 4 i) (p3 3 5 7 i) (s 800) (s 801)) least (s 800); rw [← hpl]; unfold zPl; first | rw [if_pos (by omega)] | rw [if_neg (by omega)]⟩
    · show tt Zi d 29 (110, [some (.inr (.inl 8)), some (.inl i), some (.inl least), some (.inl ((max v5 ((v9 / (256 / ((s 800) + 1))) + (v14 * (s 801)))))), some (.inl ((256 / ((s 800) + 1))))], [], n, D, s, p, c) _
      refine tt_k 3 (S' := (115, [some (.inr (.inl 8)), some (.inl i), some (.inl least), some (.inl ((max v5 ((v9 / (256 / ((s 800) + 1))) + (v14 * (s 801)))))), some (.inl ((256 / ((s 800) + 1))))], [.inl (s 800), .inl ((max v5 ((v9 / (256 / ((s 800) + 1))) + (v14 * (s 801)))))], n, D, s, p, c)) rfl ?_
      refine tb_le (x := (max v5 ((v9 / (256 / ((s 800) + 1))) + (v14 * (s 801))))) (y := (s 800)) rfl rfl (by omega) (fun h21 => ?_) (fun h21 => ?_)
      · show tt Zi d 29 (122, [some (.inr (.inl 8)), some (.inl i), some (.inl least), some (.inl ((max v5 ((v9 / (256 / ((s 800) + 1))) + (v14 * (s 801)))))), some (.inl ((256 / ((s 800) + 1))))], [], n, D, s, p, c) _
        refine tt_k 1 (S' := (123, [some (.inr (.inl 8)), some (.inl i), some (.inl least), some (.inl ((max v5 ((v9 / (256 / ((s 800) + 1))) + (v14 * (s 801)))))), some (.inl ((256 / ((s 800) + 1))))], [.inl ((max v5 ((v9 / (256 / ((s 800) + 1))) + (v14 * (s 801)))))], n, D, s, p, c)) rfl ?_
        exact tt_rti rfl rfl ⟨(max v5 ((v9 / (256 / ((s 800) + 1))) + (v14 * (s 801)))), rfl, rfl, by omega, by show ((max v5 ((v9 / (256 / ((s 800) + 1))) + (v14 * (s 801))))) = zPl (zPt (p3 3 7 21 i) (p3 2 3 4 i) (p3 3 5 7 i) (s 800) (s 801)) least (s 800); rw [← hpl]; unfold zPl; first | rw [if_pos (by omega)] | rw [if_neg (by omega)]⟩
      · show tt Zi d 29 (118, [some (.inr (.inl 8)), some (.inl i), some (.inl least), some (.inl ((max v5 ((v9 / (256 / ((s 800) + 1))) + (v14 * (s 801)))))), some (.inl ((256 / ((s 800) + 1))))], [], n, D, s, p, c) _
        refine tt_k 2 (S' := (123, [some (.inr (.inl 8)), some (.inl i), some (.inl least), some (.inl ((max v5 ((v9 / (256 / ((s 800) + 1))) + (v14 * (s 801)))))), some (.inl ((256 / ((s 800) + 1))))], [.inl least], n, D, s, p, c)) rfl ?_
        exact tt_rti rfl rfl ⟨least, rfl, rfl, by omega, by show least = zPl (zPt (p3 3 7 21 i) (p3 2 3 4 i) (p3 3 5 7 i) (s 800) (s 801)) least (s 800); rw [← hpl]; unfold zPl; first | rw [if_pos (by omega)] | rw [if_neg (by omega)]⟩
  · show tt Zi d 29 (10, [some (.inr (.inl 8)), some (.inl i), some (.inl least), none, none], [], n, D, s, p, c) _
    refine tt_k 3 (S' := (17, [some (.inr (.inl 8)), some (.inl i), some (.inl least), none, none], [.inl 4095, .inl (s 800)], n, D, s, p, c)) rfl ?_
    refine tt_min (k := 0) (x := (s 800)) (y := 4095) rfl rfl (Nat.le_of_ble_eq_true rfl) (by omega) ?_
    refine tt_k 3 (S' := (27, [some (.inr (.inl 8)), some (.inl i), some (.inl least), none, none], [.inl 256, .inl (((min (s 800) 4095) + 128))], n, D, s, p, c)) rfl ?_
    refine tt_dvp (x := ((min (s 800) 4095) + 128)) (y := 256) rfl (by omega) ?_
    show tt Zi d 29 (28, [some (.inr (.inl 8)), some (.inl i), some (.inl least), none, none], [.inl ((((min (s 800) 4095) + 128) / 256))], n, D, s, p, c) _
    refine tt_k 4 (S' := (36, [some (.inr (.inl 8)), some (.inl i), some (.inl least), none, some (.inl ((((min (s 800) 4095) + 128) / 256)))], [.inl i, .inr (.inl (1000000 + 0)), .inl ((((min (s 800) 4095) + 128) / 256))], n, D, s, p, c)) rfl ?_
    obtain ⟨f24, hz25, hz25b⟩ := hz.1
    refine tt_stat (j := 0) (i := i) rfl hz25 (by omega) ?_
    show tt Zi d 29 (37, [some (.inr (.inl 8)), some (.inl i), some (.inl least), none, some (.inl ((((min (s 800) 4095) + 128) / 256)))], [.inl (f24 (i).toNat), .inl ((((min (s 800) 4095) + 128) / 256))], n, D, s, p, c) _
    generalize hvv22 : f24 (i).toNat = v22
    have b23 : 0 ≤ v22 ∧ v22 ≤ 100 := by rw [← hvv22]; exact hz25b _
    show tt Zi d 29 (37, [some (.inr (.inl 8)), some (.inl i), some (.inl least), none, some (.inl ((((min (s 800) 4095) + 128) / 256)))], [.inl v22, .inl ((((min (s 800) 4095) + 128) / 256))], n, D, s, p, c) _
    have hstv22 : v22 = p3 3 7 21 i := by rw [← hvv22]; exact p3_of (hz.2.2.2.2.1 f24 hz25) (by omega)
    refine tt_k 2 (S' := (41, [some (.inr (.inl 8)), some (.inl i), some (.inl least), none, some (.inl ((((min (s 800) 4095) + 128) / 256)))], [.inl i, .inr (.inl (1000000 + 1)), .inl v22, .inl ((((min (s 800) 4095) + 128) / 256))], n, D, s, p, c)) rfl ?_
    obtain ⟨f28, hz29, hz29b⟩ := hz.2.1
    refine tt_stat (j := 1) (i := i) rfl hz29 (by omega) ?_
    show tt Zi d 29 (42, [some (.inr (.inl 8)), some (.inl i), some (.inl least), none, some (.inl ((((min (s 800) 4095) + 128) / 256)))], [.inl (f28 (i).toNat), .inl v22, .inl ((((min (s 800) 4095) + 128) / 256))], n, D, s, p, c) _
    generalize hvv26 : f28 (i).toNat = v26
    have b27 : 0 ≤ v26 ∧ v26 ≤ 100 := by rw [← hvv26]; exact hz29b _
    show tt Zi d 29 (42, [some (.inr (.inl 8)), some (.inl i), some (.inl least), none, some (.inl ((((min (s 800) 4095) + 128) / 256)))], [.inl v26, .inl v22, .inl ((((min (s 800) 4095) + 128) / 256))], n, D, s, p, c) _
    have hstv26 : v26 = p3 2 3 4 i := by rw [← hvv26]; exact p3_of (hz.2.2.2.2.2.1 f28 hz29) (by omega)
    refine tt_k 4 (S' := (48, [some (.inr (.inl 8)), some (.inl i), some (.inl least), none, some (.inl ((((min (s 800) 4095) + 128) / 256)))], [.inl i, .inr (.inl (1000000 + 1)), .inl (((((min (s 800) 4095) + 128) / 256) * (v22 - v26)))], n, D, s, p, c)) rfl ?_
    obtain ⟨f32, hz33, hz33b⟩ := hz.2.1
    refine tt_stat (j := 1) (i := i) rfl hz33 (by omega) ?_
    show tt Zi d 29 (49, [some (.inr (.inl 8)), some (.inl i), some (.inl least), none, some (.inl ((((min (s 800) 4095) + 128) / 256)))], [.inl (f32 (i).toNat), .inl (((((min (s 800) 4095) + 128) / 256) * (v22 - v26)))], n, D, s, p, c) _
    generalize hvv30 : f32 (i).toNat = v30
    have b31 : 0 ≤ v30 ∧ v30 ≤ 100 := by rw [← hvv30]; exact hz33b _
    show tt Zi d 29 (49, [some (.inr (.inl 8)), some (.inl i), some (.inl least), none, some (.inl ((((min (s 800) 4095) + 128) / 256)))], [.inl v30, .inl (((((min (s 800) 4095) + 128) / 256) * (v22 - v26)))], n, D, s, p, c) _
    have hstv30 : v30 = p3 2 3 4 i := by rw [← hvv30]; exact p3_of (hz.2.2.2.2.2.1 f32 hz33) (by omega)
    refine tt_k 3 (S' := (54, [some (.inr (.inl 8)), some (.inl i), some (.inl least), none, some (.inl ((((min (s 800) 4095) + 128) / 256)))], [.inl i, .inr (.inl (1000000 + 2)), .inl ((((((min (s 800) 4095) + 128) / 256) * (v22 - v26)) + v30))], n, D, s, p, c)) rfl ?_
    obtain ⟨f36, hz37, hz37b⟩ := hz.2.2.1
    refine tt_stat (j := 2) (i := i) rfl hz37 (by omega) ?_
    show tt Zi d 29 (55, [some (.inr (.inl 8)), some (.inl i), some (.inl least), none, some (.inl ((((min (s 800) 4095) + 128) / 256)))], [.inl (f36 (i).toNat), .inl ((((((min (s 800) 4095) + 128) / 256) * (v22 - v26)) + v30))], n, D, s, p, c) _
    generalize hvv34 : f36 (i).toNat = v34
    have b35 : 0 ≤ v34 ∧ v34 ≤ 100 := by rw [← hvv34]; exact hz37b _
    show tt Zi d 29 (55, [some (.inr (.inl 8)), some (.inl i), some (.inl least), none, some (.inl ((((min (s 800) 4095) + 128) / 256)))], [.inl v34, .inl ((((((min (s 800) 4095) + 128) / 256) * (v22 - v26)) + v30))], n, D, s, p, c) _
    have hstv34 : v34 = p3 3 5 7 i := by rw [← hvv34]; exact p3_of (hz.2.2.2.2.2.2.1 f36 hz37) (by omega)
    refine tt_k 6 (S' := (105, [some (.inr (.inl 8)), some (.inl i), some (.inl least), some (.inl (((((((min (s 800) 4095) + 128) / 256) * (v22 - v26)) + v30) + (v34 * (s 801))))), some (.inl ((((min (s 800) 4095) + 128) / 256)))], [], n, D, s, p, c)) rfl ?_
    have hpl : ((((((min (s 800) 4095) + 128) / 256) * (v22 - v26)) + v30) + (v34 * (s 801))) = (zPt (p3 3 7 21 i) (p3 2 3 4 i) (p3 3 5 7 i) (s 800) (s 801)) := by unfold zPt; first | (rw [if_pos (show s 800 < 128 by omega), hstv22, hstv26, hstv30, hstv34]) | (rw [if_neg (show ¬ s 800 < 128 by omega), hstv22, hstv26, hstv30, hstv34])
    have hmf : -1700 ≤ (((min (s 800) 4095) + 128) / 256) * (v22 - v26) ∧ (((min (s 800) 4095) + 128) / 256) * (v22 - v26) ≤ 1700 := by rw [Int.mul_comm]; exact mul_bd (e := v22 - v26) (st := (((min (s 800) 4095) + 128) / 256)) (a := 100) (b := 17) (by omega) (by omega) (by omega) (by omega) (by decide)
    refine tt_k 2 (S' := (107, [some (.inr (.inl 8)), some (.inl i), some (.inl least), some (.inl (((((((min (s 800) 4095) + 128) / 256) * (v22 - v26)) + v30) + (v34 * (s 801))))), some (.inl ((((min (s 800) 4095) + 128) / 256)))], [.inl least, .inl (((((((min (s 800) 4095) + 128) / 256) * (v22 - v26)) + v30) + (v34 * (s 801))))], n, D, s, p, c)) rfl ?_
    have b38 : -2147483648 ≤ (s 801) ∧ (s 801) ≤ 2147483647 := hS 801
    have m39 := mul_bd (e := v34) (st := (s 801)) (a := 100) (b := 255) (by omega) (by omega) (by omega) (by omega) (by omega)
    refine tb_lt (x := ((((((min (s 800) 4095) + 128) / 256) * (v22 - v26)) + v30) + (v34 * (s 801)))) (y := least) rfl rfl (by omega) (fun h40 => ?_) (fun h40 => ?_)
    · show tt Zi d 29 (118, [some (.inr (.inl 8)), some (.inl i), some (.inl least), some (.inl (((((((min (s 800) 4095) + 128) / 256) * (v22 - v26)) + v30) + (v34 * (s 801))))), some (.inl ((((min (s 800) 4095) + 128) / 256)))], [], n, D, s, p, c) _
      refine tt_k 2 (S' := (123, [some (.inr (.inl 8)), some (.inl i), some (.inl least), some (.inl (((((((min (s 800) 4095) + 128) / 256) * (v22 - v26)) + v30) + (v34 * (s 801))))), some (.inl ((((min (s 800) 4095) + 128) / 256)))], [.inl least], n, D, s, p, c)) rfl ?_
      exact tt_rti rfl rfl ⟨least, rfl, rfl, by omega, by show least = zPl (zPt (p3 3 7 21 i) (p3 2 3 4 i) (p3 3 5 7 i) (s 800) (s 801)) least (s 800); rw [← hpl]; unfold zPl; first | rw [if_pos (by omega)] | rw [if_neg (by omega)]⟩
    · show tt Zi d 29 (110, [some (.inr (.inl 8)), some (.inl i), some (.inl least), some (.inl (((((((min (s 800) 4095) + 128) / 256) * (v22 - v26)) + v30) + (v34 * (s 801))))), some (.inl ((((min (s 800) 4095) + 128) / 256)))], [], n, D, s, p, c) _
      refine tt_k 3 (S' := (115, [some (.inr (.inl 8)), some (.inl i), some (.inl least), some (.inl (((((((min (s 800) 4095) + 128) / 256) * (v22 - v26)) + v30) + (v34 * (s 801))))), some (.inl ((((min (s 800) 4095) + 128) / 256)))], [.inl (s 800), .inl (((((((min (s 800) 4095) + 128) / 256) * (v22 - v26)) + v30) + (v34 * (s 801))))], n, D, s, p, c)) rfl ?_
      refine tb_le (x := ((((((min (s 800) 4095) + 128) / 256) * (v22 - v26)) + v30) + (v34 * (s 801)))) (y := (s 800)) rfl rfl (by omega) (fun h41 => ?_) (fun h41 => ?_)
      · show tt Zi d 29 (122, [some (.inr (.inl 8)), some (.inl i), some (.inl least), some (.inl (((((((min (s 800) 4095) + 128) / 256) * (v22 - v26)) + v30) + (v34 * (s 801))))), some (.inl ((((min (s 800) 4095) + 128) / 256)))], [], n, D, s, p, c) _
        refine tt_k 1 (S' := (123, [some (.inr (.inl 8)), some (.inl i), some (.inl least), some (.inl (((((((min (s 800) 4095) + 128) / 256) * (v22 - v26)) + v30) + (v34 * (s 801))))), some (.inl ((((min (s 800) 4095) + 128) / 256)))], [.inl (((((((min (s 800) 4095) + 128) / 256) * (v22 - v26)) + v30) + (v34 * (s 801))))], n, D, s, p, c)) rfl ?_
        exact tt_rti rfl rfl ⟨((((((min (s 800) 4095) + 128) / 256) * (v22 - v26)) + v30) + (v34 * (s 801))), rfl, rfl, by omega, by show (((((((min (s 800) 4095) + 128) / 256) * (v22 - v26)) + v30) + (v34 * (s 801)))) = zPl (zPt (p3 3 7 21 i) (p3 2 3 4 i) (p3 3 5 7 i) (s 800) (s 801)) least (s 800); rw [← hpl]; unfold zPl; first | rw [if_pos (by omega)] | rw [if_neg (by omega)]⟩
      · show tt Zi d 29 (118, [some (.inr (.inl 8)), some (.inl i), some (.inl least), some (.inl (((((((min (s 800) 4095) + 128) / 256) * (v22 - v26)) + v30) + (v34 * (s 801))))), some (.inl ((((min (s 800) 4095) + 128) / 256)))], [], n, D, s, p, c) _
        refine tt_k 2 (S' := (123, [some (.inr (.inl 8)), some (.inl i), some (.inl least), some (.inl (((((((min (s 800) 4095) + 128) / 256) * (v22 - v26)) + v30) + (v34 * (s 801))))), some (.inl ((((min (s 800) 4095) + 128) / 256)))], [.inl least], n, D, s, p, c)) rfl ?_
        exact tt_rti rfl rfl ⟨least, rfl, rfl, by omega, by show least = zPl (zPt (p3 3 7 21 i) (p3 2 3 4 i) (p3 3 5 7 i) (s 800) (s 801)) least (s 800); rw [← hpl]; unfold zPl; first | rw [if_pos (by omega)] | rw [if_neg (by omega)]⟩
set_option maxRecDepth 100000 in
set_option maxHeartbeats 4000000 in
theorem e_bitsFor_L2 {g : Nat → Int} {Zi : Nat → Option (Nat × (Nat → Int))} {d n q : Nat} {D : Nat → Nat × Nat} {s : Nat → Int} {p : Nat → Nat} {c : Nat → Nat → Int}  {Q : mi_Rs → mi_H → Prop} (hd : 0 ≤ d) (hz : zk Zi) (hq : q + 0 ≤ 400001) (hD : wd n p) (hS : bS s) (hC : bC D c) (hW : wp q g n D p s) (v : Int) (b_v : 0 ≤ v ∧ v ≤ 65537)
  (hK : ∀ (k : Int) (b_k : 0 ≤ k ∧ k ≤ 30) (i0 : k = 0 ∨ 2 ^ (k - 1).toNat < v), (v ≤ 2 ^ k.toNat) → tt Zi d 30 (21, [some (.inl v), some (.inl k)], [], n, D, s, p, c) Q) :
  ∀ (m : Nat) (k : Int) (b_k : 0 ≤ k ∧ k ≤ 30) (i0 : k = 0 ∨ 2 ^ (k - 1).toNat < v), (30 - k).toNat < m → tt Zi d 30 (2, [some (.inl v), some (.inl k)], [], n, D, s, p, c) Q := by
  intro m
  induction m with
  | zero => intro k b_k i0 hm; exact absurd hm (by omega)
  | succ m ih =>
    intro k b_k i0 hm
    have h30 : k = 30 → (2 : Int) ^ (k - 1).toNat = 536870912 := fun h => by rw [h]; decide
    have h31 : k = 30 → (2 : Int) ^ k.toNat = 1073741824 := fun h => by rw [h]; decide
    have hsh := mi_shl1i (k := k) (by omega) (by omega)
    refine tt_k 2 (S' := (5, [some (.inl v), some (.inl k)], [.inl 30, .inl k], n, D, s, p, c)) rfl ?_
    refine tb_ge (x := k) (y := 30) rfl rfl (by omega) (fun h1 => ?_) (fun h1 => ?_)
    · show tt Zi d 30 (21, [some (.inl v), some (.inl k)], [], n, D, s, p, c) _
      exact hK k (by omega) i0 (by omega)
    · show tt Zi d 30 (8, [some (.inl v), some (.inl k)], [], n, D, s, p, c) _
      refine tt_k 4 (S' := (12, [some (.inl v), some (.inl k)], [.inl v, .inl (mi_shl 1 k)], n, D, s, p, c)) rfl ?_
      have e2 : 1 ≤ (mi_shl 1 k) ∧ (mi_shl 1 k) ≤ 536870912 := mi_shl1b 0 29 (by omega) (by omega) (by decide)
      refine tb_ge (x := (mi_shl 1 k)) (y := v) rfl rfl (by omega) (fun h3 => ?_) (fun h3 => ?_)
      · show tt Zi d 30 (21, [some (.inl v), some (.inl k)], [], n, D, s, p, c) _
        exact hK k (by omega) i0 (by omega)
      · show tt Zi d 30 (15, [some (.inl v), some (.inl k)], [], n, D, s, p, c) _
        refine tt_k 2 (S' := (2, [some (.inl v), some (.inl (k + 1))], [], n, D, s, p, c)) rfl ?_
        exact ih (k + 1) (by omega) (Or.inr (by rw [Int.add_sub_cancel]; omega)) (show (30 - (k + 1)).toNat < m by omega)
set_option maxRecDepth 100000 in
set_option maxHeartbeats 4000000 in
theorem e_bitsFor {g : Nat → Int} {Zi : Nat → Option (Nat × (Nat → Int))} {d n q : Nat} {D : Nat → Nat × Nat} {s : Nat → Int} {p : Nat → Nat} {c : Nat → Nat → Int} (hd : 0 ≤ d) (hz : zk Zi) (hq : q + 0 ≤ 400000) (hD : wd n p) (hS : bS s) (hC : bC D c) (hW : wp q g n D p s) (v : Int) (b_v : 0 ≤ v ∧ v ≤ 65537) : tt Zi d 30 (0, [some (.inl v), none], [], n, D, s, p, c) (fun R H => ∃ (r : Int), R = .inl (some (.inl r)) ∧ H = (n, D, s, p, c) ∧ (0 ≤ r ∧ r ≤ 30) ∧ (r = ke v 1) ∧ (v ≤ 65536 → r ≤ 16)) := by
  refine tt_k 2 (S' := (2, [some (.inl v), some (.inl 0)], [], n, D, s, p, c)) rfl ?_
  refine e_bitsFor_L2 (Zi := Zi) (q := q) (n := n) (D := D) (s := s) (p := p) (c := c) hd hz (by omega) hD hS hC hW  v (by omega)   ?_ _ 0 (by omega) (Or.inl rfl) (Nat.lt_succ_self _)
  intro x1 b2 i3 hx4
  show tt Zi d 30 (21, [some (.inl v), some (.inl x1)], [], n, D, s, p, c) _
  replace i3 : x1 = 0 ∨ 2 ^ (x1 - 1).toNat < v := i3
  replace hx4 : v ≤ 2 ^ x1.toNat := hx4
  refine tt_k 1 (S' := (22, [some (.inl v), some (.inl x1)], [.inl x1], n, D, s, p, c)) rfl ?_
  exact tt_rti rfl rfl ⟨x1, rfl, rfl, by omega, by show x1 = ke v 1; exact ke_eq (by decide) (by omega) (by rw [Int.one_mul]; exact hx4) (by rw [Int.one_mul]; exact i3), by show v ≤ 65536 → x1 ≤ 16; intro hv; exact pw_16b (by omega) i3 hv⟩
set_option maxRecDepth 100000 in
set_option maxHeartbeats 4000000 in
theorem e_settle3 {g : Nat → Int} {Zi : Nat → Option (Nat × (Nat → Int))} {d n q : Nat} {D : Nat → Nat × Nat} {s : Nat → Int} {p : Nat → Nat} {c : Nat → Nat → Int} (hd : 1 ≤ d) (hz : zk Zi) (hq : q + 2 ≤ 400000) (hD : wd n p) (hS : bS s) (hC : bC D c) (hW : wp q g n D p s) (bits : Int) (nr : Int) (b_bits : 2 ≤ bits ∧ bits ≤ 16) (b_nr : -2147483648 ≤ nr ∧ nr ≤ 2147483647) : tt Zi d 28 (0, [some (.inr (.inl 8)), some (.inr (.inl 3)), some (.inl bits), some (.inl nr), none, none], [], n, D, s, p, c) (fun R H => ∃ (s' : Nat → Int) (r : Int), R = .inl (some (.inl r)) ∧ H = (n, D, s', p, c) ∧ bS s' ∧ wp q g n D p s' ∧ fr s s' [800, 801, 802, 803, 804, 805, 806, 807, 808, 809] ∧ (0 ≤ r ∧ r ≤ 1) ∧ ((r = 1 ∧ VM (c 3 0) (c 3 1) (c 3 2) (c 3 3) (c 3 4) bits nr ∧ zq (ZM (c 3 0) (c 3 1) (c 3 2) (c 3 3) (c 3 4) bits nr) (s' 800) (s' 801) (s' 802) (s' 803) (s' 804) (s' 805) (s' 806) (s' 807) (s' 808) (s' 809)) ∨ (r = 0 ∧ ¬ VM (c 3 0) (c 3 1) (c 3 2) (c 3 3) (c 3 4) bits nr))) := by
  have e1 : 4 ≤ (mi_shl 1 bits) ∧ (mi_shl 1 bits) ≤ 65536 := mi_shl1b 2 16 (by omega) (by omega) (by decide)
  have hsh := mi_shl1i (k := bits) (by omega) (by omega)
  have hpb := pw_bits (b := bits) (by omega)
  refine tt_k 9 (S' := (10, [some (.inr (.inl 8)), some (.inr (.inl 3)), some (.inl bits), some (.inl nr), some (.inl ((mi_shl 1 bits) - 1)), none], [.inl 0, .inr (.inl 3), .inr (.inl 8)], n, D, s, p, c)) rfl ?_
  refine tt_ilb (i := 0) (m := 5) (lo := 0) (hi := 65535) rfl rfl (by omega) hC ⟨rfl, rfl⟩ ?_
  intro v2 b3 hvv2
  show tt Zi d 28 (11, [some (.inr (.inl 8)), some (.inr (.inl 3)), some (.inl bits), some (.inl nr), some (.inl ((mi_shl 1 bits) - 1)), none], [.inl v2, .inr (.inl 8)], n, D, s, p, c) _
  have gv2 : c 3 0 = v2 := hvv2
  have K5 : ∀ (j4 : Int) , (0 ≤ j4 ∧ j4 ≤ 65535) → (j4 = (zMo (c 3 0) bits)) → (1 ≤ j4) → (True) → tt Zi d 28 (22, [some (.inr (.inl 8)), some (.inr (.inl 3)), some (.inl bits), some (.inl nr), some (.inl ((mi_shl 1 bits) - 1)), none], [.inl j4, .inr (.inl 8)], n, D, s, p, c) (fun R H => ∃ (s' : Nat → Int) (r : Int), R = .inl (some (.inl r)) ∧ H = (n, D, s', p, c) ∧ bS s' ∧ wp q g n D p s' ∧ fr s s' [800, 801, 802, 803, 804, 805, 806, 807, 808, 809] ∧ (0 ≤ r ∧ r ≤ 1) ∧ ((r = 1 ∧ VM (c 3 0) (c 3 1) (c 3 2) (c 3 3) (c 3 4) bits nr ∧ zq (ZM (c 3 0) (c 3 1) (c 3 2) (c 3 3) (c 3 4) bits nr) (s' 800) (s' 801) (s' 802) (s' 803) (s' 804) (s' 805) (s' 806) (s' 807) (s' 808) (s' 809)) ∨ (r = 0 ∧ ¬ VM (c 3 0) (c 3 1) (c 3 2) (c 3 3) (c 3 4) bits nr))) := by
    intro j4 b7 b8 b9 hj6
    refine tt_k 7 (S' := (36, [some (.inr (.inl 8)), some (.inr (.inl 3)), some (.inl bits), some (.inl nr), some (.inl ((mi_shl 1 bits) - 1)), none], [.inl ((mi_shl 1 bits) - 1), .inl j4], n, D, (us (us s 800 j4) 801 nr), p, c)) rfl ?_
    refine tb_gt (x := j4) (y := ((mi_shl 1 bits) - 1)) rfl rfl (by omega) (fun h10 => ?_) (fun h10 => ?_)
    · show tt Zi d 28 (69, [some (.inr (.inl 8)), some (.inr (.inl 3)), some (.inl bits), some (.inl nr), some (.inl ((mi_shl 1 bits) - 1)), none], [], n, D, (us (us s 800 j4) 801 nr), p, c) _
      refine tt_k 1 (S' := (70, [some (.inr (.inl 8)), some (.inr (.inl 3)), some (.inl bits), some (.inl nr), some (.inl ((mi_shl 1 bits) - 1)), none], [.inl 0], n, D, (us (us s 800 j4) 801 nr), p, c)) rfl ?_
      exact tt_rtb rfl rfl (by omega) ⟨(us (us s 800 j4) 801 nr), 0, rfl, rfl, (bS_us (bS_us hS (show 0 ≤ j4 ∧ j4 ≤ 65535 by omega)) (show -2147483648 ≤ nr ∧ nr ≤ 2147483647 by omega)), (wp_us (by decide) (wp_us (by decide) hW)), (fr_us (by decide) (fr_us (by decide) fr_rf)), by omega, by show (0 = 1 ∧ VM (c 3 0) (c 3 1) (c 3 2) (c 3 3) (c 3 4) bits nr ∧ zq (ZM (c 3 0) (c 3 1) (c 3 2) (c 3 3) (c 3 4) bits nr) (j4) (nr) ((s 802)) ((s 803)) ((s 804)) ((s 805)) ((s 806)) ((s 807)) ((s 808)) ((s 809))) ∨ (0 = 0 ∧ ¬ VM (c 3 0) (c 3 1) (c 3 2) (c 3 3) (c 3 4) bits nr); exact Or.inr ⟨rfl, by unfold VM; omega⟩⟩
    · show tt Zi d 28 (39, [some (.inr (.inl 8)), some (.inr (.inl 3)), some (.inl bits), some (.inl nr), some (.inl ((mi_shl 1 bits) - 1)), none], [], n, D, (us (us s 800 j4) 801 nr), p, c) _
      refine tt_k 2 (S' := (43, [some (.inr (.inl 8)), some (.inr (.inl 3)), some (.inl bits), some (.inl nr), some (.inl ((mi_shl 1 bits) - 1)), none], [.inl nr], n, D, (us (us s 800 j4) 801 nr), p, c)) rfl ?_
      refine tz_lt (x := nr) rfl rfl (by omega) (fun h11 => ?_) (fun h11 => ?_)
      · show tt Zi d 28 (69, [some (.inr (.inl 8)), some (.inr (.inl 3)), some (.inl bits), some (.inl nr), some (.inl ((mi_shl 1 bits) - 1)), none], [], n, D, (us (us s 800 j4) 801 nr), p, c) _
        refine tt_k 1 (S' := (70, [some (.inr (.inl 8)), some (.inr (.inl 3)), some (.inl bits), some (.inl nr), some (.inl ((mi_shl 1 bits) - 1)), none], [.inl 0], n, D, (us (us s 800 j4) 801 nr), p, c)) rfl ?_
        exact tt_rtb rfl rfl (by omega) ⟨(us (us s 800 j4) 801 nr), 0, rfl, rfl, (bS_us (bS_us hS (show 0 ≤ j4 ∧ j4 ≤ 65535 by omega)) (show -2147483648 ≤ nr ∧ nr ≤ 2147483647 by omega)), (wp_us (by decide) (wp_us (by decide) hW)), (fr_us (by decide) (fr_us (by decide) fr_rf)), by omega, by show (0 = 1 ∧ VM (c 3 0) (c 3 1) (c 3 2) (c 3 3) (c 3 4) bits nr ∧ zq (ZM (c 3 0) (c 3 1) (c 3 2) (c 3 3) (c 3 4) bits nr) (j4) (nr) ((s 802)) ((s 803)) ((s 804)) ((s 805)) ((s 806)) ((s 807)) ((s 808)) ((s 809))) ∨ (0 = 0 ∧ ¬ VM (c 3 0) (c 3 1) (c 3 2) (c 3 3) (c 3 4) bits nr); exact Or.inr ⟨rfl, by unfold VM; omega⟩⟩
      · show tt Zi d 28 (46, [some (.inr (.inl 8)), some (.inr (.inl 3)), some (.inl bits), some (.inl nr), some (.inl ((mi_shl 1 bits) - 1)), none], [], n, D, (us (us s 800 j4) 801 nr), p, c) _
        refine tt_k 3 (S' := (53, [some (.inr (.inl 8)), some (.inr (.inl 3)), some (.inl bits), some (.inl nr), some (.inl ((mi_shl 1 bits) - 1)), none], [.inl 255, .inl nr], n, D, (us (us s 800 j4) 801 nr), p, c)) rfl ?_
        refine tb_gt (x := nr) (y := 255) rfl rfl (by omega) (fun h12 => ?_) (fun h12 => ?_)
        · show tt Zi d 28 (69, [some (.inr (.inl 8)), some (.inr (.inl 3)), some (.inl bits), some (.inl nr), some (.inl ((mi_shl 1 bits) - 1)), none], [], n, D, (us (us s 800 j4) 801 nr), p, c) _
          refine tt_k 1 (S' := (70, [some (.inr (.inl 8)), some (.inr (.inl 3)), some (.inl bits), some (.inl nr), some (.inl ((mi_shl 1 bits) - 1)), none], [.inl 0], n, D, (us (us s 800 j4) 801 nr), p, c)) rfl ?_
          exact tt_rtb rfl rfl (by omega) ⟨(us (us s 800 j4) 801 nr), 0, rfl, rfl, (bS_us (bS_us hS (show 0 ≤ j4 ∧ j4 ≤ 65535 by omega)) (show -2147483648 ≤ nr ∧ nr ≤ 2147483647 by omega)), (wp_us (by decide) (wp_us (by decide) hW)), (fr_us (by decide) (fr_us (by decide) fr_rf)), by omega, by show (0 = 1 ∧ VM (c 3 0) (c 3 1) (c 3 2) (c 3 3) (c 3 4) bits nr ∧ zq (ZM (c 3 0) (c 3 1) (c 3 2) (c 3 3) (c 3 4) bits nr) (j4) (nr) ((s 802)) ((s 803)) ((s 804)) ((s 805)) ((s 806)) ((s 807)) ((s 808)) ((s 809))) ∨ (0 = 0 ∧ ¬ VM (c 3 0) (c 3 1) (c 3 2) (c 3 3) (c 3 4) bits nr); exact Or.inr ⟨rfl, by unfold VM; omega⟩⟩
        · show tt Zi d 28 (56, [some (.inr (.inl 8)), some (.inr (.inl 3)), some (.inl bits), some (.inl nr), some (.inl ((mi_shl 1 bits) - 1)), none], [], n, D, (us (us s 800 j4) 801 nr), p, c) _
          refine tt_k 5 (S' := (65, [some (.inr (.inl 8)), some (.inr (.inl 3)), some (.inl bits), some (.inl nr), some (.inl ((mi_shl 1 bits) - 1)), none], [.inl 2, .inl j4, .inl nr], n, D, (us (us s 800 j4) 801 nr), p, c)) rfl ?_
          refine tt_dvp (x := j4) (y := 2) rfl (by omega) ?_
          show tt Zi d 28 (66, [some (.inr (.inl 8)), some (.inr (.inl 3)), some (.inl bits), some (.inl nr), some (.inl ((mi_shl 1 bits) - 1)), none], [.inl (j4 / 2), .inl nr], n, D, (us (us s 800 j4) 801 nr), p, c) _
          refine tb_le (x := nr) (y := (j4 / 2)) rfl rfl (by omega) (fun h13 => ?_) (fun h13 => ?_)
          · show tt Zi d 28 (71, [some (.inr (.inl 8)), some (.inr (.inl 3)), some (.inl bits), some (.inl nr), some (.inl ((mi_shl 1 bits) - 1)), none], [], n, D, (us (us s 800 j4) 801 nr), p, c) _
            refine tt_k 3 (S' := (74, [some (.inr (.inl 8)), some (.inr (.inl 3)), some (.inl bits), some (.inl nr), some (.inl ((mi_shl 1 bits) - 1)), none], [.inl 1, .inr (.inl 3), .inr (.inl 8)], n, D, (us (us s 800 j4) 801 nr), p, c)) rfl ?_
            refine tt_ilb (i := 1) (m := 5) (lo := 0) (hi := 65535) rfl rfl (by omega) hC ⟨rfl, rfl⟩ ?_
            intro v14 b15 hvv14
            show tt Zi d 28 (75, [some (.inr (.inl 8)), some (.inr (.inl 3)), some (.inl bits), some (.inl nr), some (.inl ((mi_shl 1 bits) - 1)), none], [.inl v14, .inr (.inl 8)], n, D, (us (us s 800 j4) 801 nr), p, c) _
            have gv14 : c 3 1 = v14 := hvv14
            have K17 : ∀ (j16 : Int) , (-2147483648 ≤ j16 ∧ j16 ≤ 2147483647) → (j16 = (zT1 (c 3 1) (zMo (c 3 0) bits) nr)) → (-2147483648 ≤ j16 ∧ j16 ≤ 2147483647) → (True) → tt Zi d 28 (95, [some (.inr (.inl 8)), some (.inr (.inl 3)), some (.inl bits), some (.inl nr), some (.inl ((mi_shl 1 bits) - 1)), none], [.inl j16, .inr (.inl 8)], n, D, (us (us s 800 j4) 801 nr), p, c) (fun R H => ∃ (s' : Nat → Int) (r : Int), R = .inl (some (.inl r)) ∧ H = (n, D, s', p, c) ∧ bS s' ∧ wp q g n D p s' ∧ fr s s' [800, 801, 802, 803, 804, 805, 806, 807, 808, 809] ∧ (0 ≤ r ∧ r ≤ 1) ∧ ((r = 1 ∧ VM (c 3 0) (c 3 1) (c 3 2) (c 3 3) (c 3 4) bits nr ∧ zq (ZM (c 3 0) (c 3 1) (c 3 2) (c 3 3) (c 3 4) bits nr) (s' 800) (s' 801) (s' 802) (s' 803) (s' 804) (s' 805) (s' 806) (s' 807) (s' 808) (s' 809)) ∨ (r = 0 ∧ ¬ VM (c 3 0) (c 3 1) (c 3 2) (c 3 3) (c 3 4) bits nr))) := by
              intro j16 b19 b20 b21 hj18
              refine tt_k 4 (S' := (101, [some (.inr (.inl 8)), some (.inr (.inl 3)), some (.inl bits), some (.inl nr), some (.inl ((mi_shl 1 bits) - 1)), none], [.inl 2, .inr (.inl 3), .inr (.inl 8)], n, D, (us (us (us s 800 j4) 801 nr) 802 j16), p, c)) rfl ?_
              refine tt_ilb (i := 2) (m := 5) (lo := 0) (hi := 65535) rfl rfl (by omega) hC ⟨rfl, rfl⟩ ?_
              intro v22 b23 hvv22
              show tt Zi d 28 (102, [some (.inr (.inl 8)), some (.inr (.inl 3)), some (.inl bits), some (.inl nr), some (.inl ((mi_shl 1 bits) - 1)), none], [.inl v22, .inr (.inl 8)], n, D, (us (us (us s 800 j4) 801 nr) 802 j16), p, c) _
              have gv22 : c 3 2 = v22 := hvv22
              have K25 : ∀ (j24 : Int) , (-2147483648 ≤ j24 ∧ j24 ≤ 2147483647) → (j24 = (zT2 (c 3 2) (zT1 (c 3 1) (zMo (c 3 0) bits) nr) (zMo (c 3 0) bits) nr)) → (True) → tt Zi d 28 (120, [some (.inr (.inl 8)), some (.inr (.inl 3)), some (.inl bits), some (.inl nr), some (.inl ((mi_shl 1 bits) - 1)), none], [.inl j24, .inr (.inl 8)], n, D, (us (us (us s 800 j4) 801 nr) 802 j16), p, c) (fun R H => ∃ (s' : Nat → Int) (r : Int), R = .inl (some (.inl r)) ∧ H = (n, D, s', p, c) ∧ bS s' ∧ wp q g n D p s' ∧ fr s s' [800, 801, 802, 803, 804, 805, 806, 807, 808, 809] ∧ (0 ≤ r ∧ r ≤ 1) ∧ ((r = 1 ∧ VM (c 3 0) (c 3 1) (c 3 2) (c 3 3) (c 3 4) bits nr ∧ zq (ZM (c 3 0) (c 3 1) (c 3 2) (c 3 3) (c 3 4) bits nr) (s' 800) (s' 801) (s' 802) (s' 803) (s' 804) (s' 805) (s' 806) (s' 807) (s' 808) (s' 809)) ∨ (r = 0 ∧ ¬ VM (c 3 0) (c 3 1) (c 3 2) (c 3 3) (c 3 4) bits nr))) := by
                intro j24 b27 b28 hj26
                refine tt_k 4 (S' := (126, [some (.inr (.inl 8)), some (.inr (.inl 3)), some (.inl bits), some (.inl nr), some (.inl ((mi_shl 1 bits) - 1)), none], [.inl 3, .inr (.inl 3), .inr (.inl 8)], n, D, (us (us (us (us s 800 j4) 801 nr) 802 j16) 803 j24), p, c)) rfl ?_
                refine tt_ilb (i := 3) (m := 5) (lo := 0) (hi := 65535) rfl rfl (by omega) hC ⟨rfl, rfl⟩ ?_
                intro v29 b30 hvv29
                show tt Zi d 28 (127, [some (.inr (.inl 8)), some (.inr (.inl 3)), some (.inl bits), some (.inl nr), some (.inl ((mi_shl 1 bits) - 1)), none], [.inl v29, .inr (.inl 8)], n, D, (us (us (us (us s 800 j4) 801 nr) 802 j16) 803 j24), p, c) _
                have gv29 : c 3 3 = v29 := hvv29
                have K32 : ∀ (j31 : Int) , (-2147483648 ≤ j31 ∧ j31 ≤ 2147483647) → (j31 = (zT3 (c 3 3) (zT2 (c 3 2) (zT1 (c 3 1) (zMo (c 3 0) bits) nr) (zMo (c 3 0) bits) nr) (zMo (c 3 0) bits) nr)) → (True) → tt Zi d 28 (145, [some (.inr (.inl 8)), some (.inr (.inl 3)), some (.inl bits), some (.inl nr), some (.inl ((mi_shl 1 bits) - 1)), none], [.inl j31, .inr (.inl 8)], n, D, (us (us (us (us s 800 j4) 801 nr) 802 j16) 803 j24), p, c) (fun R H => ∃ (s' : Nat → Int) (r : Int), R = .inl (some (.inl r)) ∧ H = (n, D, s', p, c) ∧ bS s' ∧ wp q g n D p s' ∧ fr s s' [800, 801, 802, 803, 804, 805, 806, 807, 808, 809] ∧ (0 ≤ r ∧ r ≤ 1) ∧ ((r = 1 ∧ VM (c 3 0) (c 3 1) (c 3 2) (c 3 3) (c 3 4) bits nr ∧ zq (ZM (c 3 0) (c 3 1) (c 3 2) (c 3 3) (c 3 4) bits nr) (s' 800) (s' 801) (s' 802) (s' 803) (s' 804) (s' 805) (s' 806) (s' 807) (s' 808) (s' 809)) ∨ (r = 0 ∧ ¬ VM (c 3 0) (c 3 1) (c 3 2) (c 3 3) (c 3 4) bits nr))) := by
                  intro j31 b34 b35 hj33
                  refine tt_k 4 (S' := (151, [some (.inr (.inl 8)), some (.inr (.inl 3)), some (.inl bits), some (.inl nr), some (.inl ((mi_shl 1 bits) - 1)), none], [.inl 4, .inr (.inl 3), .inr (.inl 8)], n, D, (us (us (us (us (us s 800 j4) 801 nr) 802 j16) 803 j24) 804 j31), p, c)) rfl ?_
                  refine tt_ilb (i := 4) (m := 5) (lo := 0) (hi := 65535) rfl rfl (by omega) hC ⟨rfl, rfl⟩ ?_
                  intro v36 b37 hvv36
                  show tt Zi d 28 (152, [some (.inr (.inl 8)), some (.inr (.inl 3)), some (.inl bits), some (.inl nr), some (.inl ((mi_shl 1 bits) - 1)), none], [.inl v36, .inr (.inl 8)], n, D, (us (us (us (us (us s 800 j4) 801 nr) 802 j16) 803 j24) 804 j31), p, c) _
                  have gv36 : c 3 4 = v36 := hvv36
                  have K39 : ∀ (j38 : Int) , (0 ≤ j38 ∧ j38 ≤ 65535) → (j38 = zHa (c 3 4)) → (True) → tt Zi d 28 (163, [some (.inr (.inl 8)), some (.inr (.inl 3)), some (.inl bits), some (.inl nr), some (.inl ((mi_shl 1 bits) - 1)), none], [.inl j38, .inr (.inl 8)], n, D, (us (us (us (us (us s 800 j4) 801 nr) 802 j16) 803 j24) 804 j31), p, c) (fun R H => ∃ (s' : Nat → Int) (r : Int), R = .inl (some (.inl r)) ∧ H = (n, D, s', p, c) ∧ bS s' ∧ wp q g n D p s' ∧ fr s s' [800, 801, 802, 803, 804, 805, 806, 807, 808, 809] ∧ (0 ≤ r ∧ r ≤ 1) ∧ ((r = 1 ∧ VM (c 3 0) (c 3 1) (c 3 2) (c 3 3) (c 3 4) bits nr ∧ zq (ZM (c 3 0) (c 3 1) (c 3 2) (c 3 3) (c 3 4) bits nr) (s' 800) (s' 801) (s' 802) (s' 803) (s' 804) (s' 805) (s' 806) (s' 807) (s' 808) (s' 809)) ∨ (r = 0 ∧ ¬ VM (c 3 0) (c 3 1) (c 3 2) (c 3 3) (c 3 4) bits nr))) := by
                    intro j38 b41 b42 hj40
                    refine tt_k 5 (S' := (174, [some (.inr (.inl 8)), some (.inr (.inl 3)), some (.inl bits), some (.inl nr), some (.inl ((mi_shl 1 bits) - 1)), none], [.inl nr, .inl j16], n, D, (us (us (us (us (us (us s 800 j4) 801 nr) 802 j16) 803 j24) 804 j31) 805 j38), p, c)) rfl ?_
                    refine tb_le (x := j16) (y := nr) rfl rfl (by omega) (fun h43 => ?_) (fun h43 => ?_)
                    · show tt Zi d 28 (210, [some (.inr (.inl 8)), some (.inr (.inl 3)), some (.inl bits), some (.inl nr), some (.inl ((mi_shl 1 bits) - 1)), none], [], n, D, (us (us (us (us (us (us s 800 j4) 801 nr) 802 j16) 803 j24) 804 j31) 805 j38), p, c) _
                      refine tt_k 1 (S' := (211, [some (.inr (.inl 8)), some (.inr (.inl 3)), some (.inl bits), some (.inl nr), some (.inl ((mi_shl 1 bits) - 1)), none], [.inl 0], n, D, (us (us (us (us (us (us s 800 j4) 801 nr) 802 j16) 803 j24) 804 j31) 805 j38), p, c)) rfl ?_
                      exact tt_rtb rfl rfl (by omega) ⟨(us (us (us (us (us (us s 800 j4) 801 nr) 802 j16) 803 j24) 804 j31) 805 j38), 0, rfl, rfl, (bS_us (bS_us (bS_us (bS_us (bS_us (bS_us hS (show 0 ≤ j4 ∧ j4 ≤ 65535 by omega)) (show -2147483648 ≤ nr ∧ nr ≤ 2147483647 by omega)) (show -2147483648 ≤ j16 ∧ j16 ≤ 2147483647 by omega)) (show -2147483648 ≤ j24 ∧ j24 ≤ 2147483647 by omega)) (show -2147483648 ≤ j31 ∧ j31 ≤ 2147483647 by omega)) (show 0 ≤ j38 ∧ j38 ≤ 65535 by omega)), (wp_us (by decide) (wp_us (by decide) (wp_us (by decide) (wp_us (by decide) (wp_us (by decide) (wp_us (by decide) hW)))))), (fr_us (by decide) (fr_us (by decide) (fr_us (by decide) (fr_us (by decide) (fr_us (by decide) (fr_us (by decide) fr_rf)))))), by omega, by show (0 = 1 ∧ VM (c 3 0) (c 3 1) (c 3 2) (c 3 3) (c 3 4) bits nr ∧ zq (ZM (c 3 0) (c 3 1) (c 3 2) (c 3 3) (c 3 4) bits nr) (j4) (nr) (j16) (j24) (j31) (j38) ((s 806)) ((s 807)) ((s 808)) ((s 809))) ∨ (0 = 0 ∧ ¬ VM (c 3 0) (c 3 1) (c 3 2) (c 3 3) (c 3 4) bits nr); exact Or.inr ⟨rfl, by unfold VM; omega⟩⟩
                    · show tt Zi d 28 (177, [some (.inr (.inl 8)), some (.inr (.inl 3)), some (.inl bits), some (.inl nr), some (.inl ((mi_shl 1 bits) - 1)), none], [], n, D, (us (us (us (us (us (us s 800 j4) 801 nr) 802 j16) 803 j24) 804 j31) 805 j38), p, c) _
                      refine tt_k 4 (S' := (185, [some (.inr (.inl 8)), some (.inr (.inl 3)), some (.inl bits), some (.inl nr), some (.inl ((mi_shl 1 bits) - 1)), none], [.inl j16, .inl j24], n, D, (us (us (us (us (us (us s 800 j4) 801 nr) 802 j16) 803 j24) 804 j31) 805 j38), p, c)) rfl ?_
                      refine tb_lt (x := j24) (y := j16) rfl rfl (by omega) (fun h44 => ?_) (fun h44 => ?_)
                      · show tt Zi d 28 (210, [some (.inr (.inl 8)), some (.inr (.inl 3)), some (.inl bits), some (.inl nr), some (.inl ((mi_shl 1 bits) - 1)), none], [], n, D, (us (us (us (us (us (us s 800 j4) 801 nr) 802 j16) 803 j24) 804 j31) 805 j38), p, c) _
                        refine tt_k 1 (S' := (211, [some (.inr (.inl 8)), some (.inr (.inl 3)), some (.inl bits), some (.inl nr), some (.inl ((mi_shl 1 bits) - 1)), none], [.inl 0], n, D, (us (us (us (us (us (us s 800 j4) 801 nr) 802 j16) 803 j24) 804 j31) 805 j38), p, c)) rfl ?_
                        exact tt_rtb rfl rfl (by omega) ⟨(us (us (us (us (us (us s 800 j4) 801 nr) 802 j16) 803 j24) 804 j31) 805 j38), 0, rfl, rfl, (bS_us (bS_us (bS_us (bS_us (bS_us (bS_us hS (show 0 ≤ j4 ∧ j4 ≤ 65535 by omega)) (show -2147483648 ≤ nr ∧ nr ≤ 2147483647 by omega)) (show -2147483648 ≤ j16 ∧ j16 ≤ 2147483647 by omega)) (show -2147483648 ≤ j24 ∧ j24 ≤ 2147483647 by omega)) (show -2147483648 ≤ j31 ∧ j31 ≤ 2147483647 by omega)) (show 0 ≤ j38 ∧ j38 ≤ 65535 by omega)), (wp_us (by decide) (wp_us (by decide) (wp_us (by decide) (wp_us (by decide) (wp_us (by decide) (wp_us (by decide) hW)))))), (fr_us (by decide) (fr_us (by decide) (fr_us (by decide) (fr_us (by decide) (fr_us (by decide) (fr_us (by decide) fr_rf)))))), by omega, by show (0 = 1 ∧ VM (c 3 0) (c 3 1) (c 3 2) (c 3 3) (c 3 4) bits nr ∧ zq (ZM (c 3 0) (c 3 1) (c 3 2) (c 3 3) (c 3 4) bits nr) (j4) (nr) (j16) (j24) (j31) (j38) ((s 806)) ((s 807)) ((s 808)) ((s 809))) ∨ (0 = 0 ∧ ¬ VM (c 3 0) (c 3 1) (c 3 2) (c 3 3) (c 3 4) bits nr); exact Or.inr ⟨rfl, by unfold VM; omega⟩⟩
                      · show tt Zi d 28 (188, [some (.inr (.inl 8)), some (.inr (.inl 3)), some (.inl bits), some (.inl nr), some (.inl ((mi_shl 1 bits) - 1)), none], [], n, D, (us (us (us (us (us (us s 800 j4) 801 nr) 802 j16) 803 j24) 804 j31) 805 j38), p, c) _
                        refine tt_k 4 (S' := (196, [some (.inr (.inl 8)), some (.inr (.inl 3)), some (.inl bits), some (.inl nr), some (.inl ((mi_shl 1 bits) - 1)), none], [.inl j24, .inl j31], n, D, (us (us (us (us (us (us s 800 j4) 801 nr) 802 j16) 803 j24) 804 j31) 805 j38), p, c)) rfl ?_
                        refine tb_lt (x := j31) (y := j24) rfl rfl (by omega) (fun h45 => ?_) (fun h45 => ?_)
                        · show tt Zi d 28 (210, [some (.inr (.inl 8)), some (.inr (.inl 3)), some (.inl bits), some (.inl nr), some (.inl ((mi_shl 1 bits) - 1)), none], [], n, D, (us (us (us (us (us (us s 800 j4) 801 nr) 802 j16) 803 j24) 804 j31) 805 j38), p, c) _
                          refine tt_k 1 (S' := (211, [some (.inr (.inl 8)), some (.inr (.inl 3)), some (.inl bits), some (.inl nr), some (.inl ((mi_shl 1 bits) - 1)), none], [.inl 0], n, D, (us (us (us (us (us (us s 800 j4) 801 nr) 802 j16) 803 j24) 804 j31) 805 j38), p, c)) rfl ?_
                          exact tt_rtb rfl rfl (by omega) ⟨(us (us (us (us (us (us s 800 j4) 801 nr) 802 j16) 803 j24) 804 j31) 805 j38), 0, rfl, rfl, (bS_us (bS_us (bS_us (bS_us (bS_us (bS_us hS (show 0 ≤ j4 ∧ j4 ≤ 65535 by omega)) (show -2147483648 ≤ nr ∧ nr ≤ 2147483647 by omega)) (show -2147483648 ≤ j16 ∧ j16 ≤ 2147483647 by omega)) (show -2147483648 ≤ j24 ∧ j24 ≤ 2147483647 by omega)) (show -2147483648 ≤ j31 ∧ j31 ≤ 2147483647 by omega)) (show 0 ≤ j38 ∧ j38 ≤ 65535 by omega)), (wp_us (by decide) (wp_us (by decide) (wp_us (by decide) (wp_us (by decide) (wp_us (by decide) (wp_us (by decide) hW)))))), (fr_us (by decide) (fr_us (by decide) (fr_us (by decide) (fr_us (by decide) (fr_us (by decide) (fr_us (by decide) fr_rf)))))), by omega, by show (0 = 1 ∧ VM (c 3 0) (c 3 1) (c 3 2) (c 3 3) (c 3 4) bits nr ∧ zq (ZM (c 3 0) (c 3 1) (c 3 2) (c 3 3) (c 3 4) bits nr) (j4) (nr) (j16) (j24) (j31) (j38) ((s 806)) ((s 807)) ((s 808)) ((s 809))) ∨ (0 = 0 ∧ ¬ VM (c 3 0) (c 3 1) (c 3 2) (c 3 3) (c 3 4) bits nr); exact Or.inr ⟨rfl, by unfold VM; omega⟩⟩
                        · show tt Zi d 28 (199, [some (.inr (.inl 8)), some (.inr (.inl 3)), some (.inl bits), some (.inl nr), some (.inl ((mi_shl 1 bits) - 1)), none], [], n, D, (us (us (us (us (us (us s 800 j4) 801 nr) 802 j16) 803 j24) 804 j31) 805 j38), p, c) _
                          refine tt_k 4 (S' := (207, [some (.inr (.inl 8)), some (.inr (.inl 3)), some (.inl bits), some (.inl nr), some (.inl ((mi_shl 1 bits) - 1)), none], [.inl j4, .inl j31], n, D, (us (us (us (us (us (us s 800 j4) 801 nr) 802 j16) 803 j24) 804 j31) 805 j38), p, c)) rfl ?_
                          refine tb_le (x := j31) (y := j4) rfl rfl (by omega) (fun h46 => ?_) (fun h46 => ?_)
                          · show tt Zi d 28 (212, [some (.inr (.inl 8)), some (.inr (.inl 3)), some (.inl bits), some (.inl nr), some (.inl ((mi_shl 1 bits) - 1)), none], [], n, D, (us (us (us (us (us (us s 800 j4) 801 nr) 802 j16) 803 j24) 804 j31) 805 j38), p, c) _
                            refine tt_k 3 (S' := (217, [some (.inr (.inl 8)), some (.inr (.inl 3)), some (.inl bits), some (.inl nr), some (.inl ((mi_shl 1 bits) - 1)), none], [.inl 3, .inl j38], n, D, (us (us (us (us (us (us s 800 j4) 801 nr) 802 j16) 803 j24) 804 j31) 805 j38), p, c)) rfl ?_
                            refine tb_lt (x := j38) (y := 3) rfl rfl (by omega) (fun h47 => ?_) (fun h47 => ?_)
                            · show tt Zi d 28 (237, [some (.inr (.inl 8)), some (.inr (.inl 3)), some (.inl bits), some (.inl nr), some (.inl ((mi_shl 1 bits) - 1)), none], [], n, D, (us (us (us (us (us (us s 800 j4) 801 nr) 802 j16) 803 j24) 804 j31) 805 j38), p, c) _
                              refine tt_k 1 (S' := (238, [some (.inr (.inl 8)), some (.inr (.inl 3)), some (.inl bits), some (.inl nr), some (.inl ((mi_shl 1 bits) - 1)), none], [.inl 0], n, D, (us (us (us (us (us (us s 800 j4) 801 nr) 802 j16) 803 j24) 804 j31) 805 j38), p, c)) rfl ?_
                              exact tt_rtb rfl rfl (by omega) ⟨(us (us (us (us (us (us s 800 j4) 801 nr) 802 j16) 803 j24) 804 j31) 805 j38), 0, rfl, rfl, (bS_us (bS_us (bS_us (bS_us (bS_us (bS_us hS (show 0 ≤ j4 ∧ j4 ≤ 65535 by omega)) (show -2147483648 ≤ nr ∧ nr ≤ 2147483647 by omega)) (show -2147483648 ≤ j16 ∧ j16 ≤ 2147483647 by omega)) (show -2147483648 ≤ j24 ∧ j24 ≤ 2147483647 by omega)) (show -2147483648 ≤ j31 ∧ j31 ≤ 2147483647 by omega)) (show 0 ≤ j38 ∧ j38 ≤ 65535 by omega)), (wp_us (by decide) (wp_us (by decide) (wp_us (by decide) (wp_us (by decide) (wp_us (by decide) (wp_us (by decide) hW)))))), (fr_us (by decide) (fr_us (by decide) (fr_us (by decide) (fr_us (by decide) (fr_us (by decide) (fr_us (by decide) fr_rf)))))), by omega, by show (0 = 1 ∧ VM (c 3 0) (c 3 1) (c 3 2) (c 3 3) (c 3 4) bits nr ∧ zq (ZM (c 3 0) (c 3 1) (c 3 2) (c 3 3) (c 3 4) bits nr) (j4) (nr) (j16) (j24) (j31) (j38) ((s 806)) ((s 807)) ((s 808)) ((s 809))) ∨ (0 = 0 ∧ ¬ VM (c 3 0) (c 3 1) (c 3 2) (c 3 3) (c 3 4) bits nr); exact Or.inr ⟨rfl, by unfold VM; omega⟩⟩
                            · show tt Zi d 28 (220, [some (.inr (.inl 8)), some (.inr (.inl 3)), some (.inl bits), some (.inl nr), some (.inl ((mi_shl 1 bits) - 1)), none], [], n, D, (us (us (us (us (us (us s 800 j4) 801 nr) 802 j16) 803 j24) 804 j31) 805 j38), p, c) _
                              refine tt_k 5 (S' := (231, [some (.inr (.inl 8)), some (.inr (.inl 3)), some (.inl bits), some (.inl nr), some (.inl ((mi_shl 1 bits) - 1)), none], [.inl j4, .inl 255, .inl j38], n, D, (us (us (us (us (us (us s 800 j4) 801 nr) 802 j16) 803 j24) 804 j31) 805 j38), p, c)) rfl ?_
                              refine tt_max (k := 0) (x := 255) (y := j4) rfl rfl (Nat.le_of_ble_eq_true rfl) (by omega) ?_
                              refine tb_le (x := j38) (y := (max 255 j4)) rfl rfl (by omega) (fun h48 => ?_) (fun h48 => ?_)
                              · show tt Zi d 28 (239, [some (.inr (.inl 8)), some (.inr (.inl 3)), some (.inl bits), some (.inl nr), some (.inl ((mi_shl 1 bits) - 1)), none], [], n, D, (us (us (us (us (us (us s 800 j4) 801 nr) 802 j16) 803 j24) 804 j31) 805 j38), p, c) _
                                refine tt_k 14 (S' := (261, [some (.inr (.inl 8)), some (.inr (.inl 3)), some (.inl bits), some (.inl nr), some (.inl ((mi_shl 1 bits) - 1)), none], [.inl nr, .inl 2, .inl j4, .inr (.inl 8)], n, D, (us (us (us (us (us (us (us s 800 j4) 801 nr) 802 j16) 803 j24) 804 j31) 805 j38) 806 ((2 * nr) + 1)), p, c)) rfl ?_
                                refine tt_k 4 (S' := (267, [some (.inr (.inl 8)), some (.inr (.inl 3)), some (.inl bits), some (.inl nr), some (.inl ((mi_shl 1 bits) - 1)), none], [.inl ((2 * nr) + 1), .inl (j4 + (2 * nr)), .inr (.inl 8)], n, D, (us (us (us (us (us (us (us s 800 j4) 801 nr) 802 j16) 803 j24) 804 j31) 805 j38) 806 ((2 * nr) + 1)), p, c)) rfl ?_
                                refine tt_dvp (x := (j4 + (2 * nr))) (y := ((2 * nr) + 1)) rfl (by omega) ?_
                                show tt Zi d 28 (268, [some (.inr (.inl 8)), some (.inr (.inl 3)), some (.inl bits), some (.inl nr), some (.inl ((mi_shl 1 bits) - 1)), none], [.inl (((j4 + (2 * nr)) / ((2 * nr) + 1))), .inr (.inl 8)], n, D, (us (us (us (us (us (us (us s 800 j4) 801 nr) 802 j16) 803 j24) 804 j31) 805 j38) 806 ((2 * nr) + 1)), p, c) _
                                have b49 : 0 ≤ ((j4 + (2 * nr)) / ((2 * nr) + 1)) ∧ ((j4 + (2 * nr)) / ((2 * nr) + 1)) ≤ (j4 + (2 * nr)) := td_le (by omega) (by omega)
                                have b50 := rg_le (most := j4) (near := nr) (by omega) (by omega)
                                refine tt_k 6 (S' := (278, [some (.inr (.inl 8)), some (.inr (.inl 3)), some (.inl bits), some (.inl nr), some (.inl ((mi_shl 1 bits) - 1)), none], [.inl ((((j4 + (2 * nr)) / ((2 * nr) + 1)) + 1)), .inr (.inl 8)], n, D, (us (us (us (us (us (us (us (us s 800 j4) 801 nr) 802 j16) 803 j24) 804 j31) 805 j38) 806 ((2 * nr) + 1)) 807 ((((j4 + (2 * nr)) / ((2 * nr) + 1)) + 1))), p, c)) rfl ?_
                                refine tt_cl (by omega) rfl (e_bitsFor (Zi := Zi) (q := q) (n := n) (D := D) (s := (us (us (us (us (us (us (us (us s 800 j4) 801 nr) 802 j16) 803 j24) 804 j31) 805 j38) 806 ((2 * nr) + 1)) 807 ((((j4 + (2 * nr)) / ((2 * nr) + 1)) + 1)))) (p := p) (c := c) (by omega) hz (by omega) hD (bS_us (bS_us (bS_us (bS_us (bS_us (bS_us (bS_us (bS_us hS (show 0 ≤ j4 ∧ j4 ≤ 65535 by omega)) (show -2147483648 ≤ nr ∧ nr ≤ 2147483647 by omega)) (show -2147483648 ≤ j16 ∧ j16 ≤ 2147483647 by omega)) (show -2147483648 ≤ j24 ∧ j24 ≤ 2147483647 by omega)) (show -2147483648 ≤ j31 ∧ j31 ≤ 2147483647 by omega)) (show 0 ≤ j38 ∧ j38 ≤ 65535 by omega)) (show 1 ≤ ((2 * nr) + 1) ∧ ((2 * nr) + 1) ≤ 511 by omega)) (show 0 ≤ (((j4 + (2 * nr)) / ((2 * nr) + 1)) + 1) ∧ (((j4 + (2 * nr)) / ((2 * nr) + 1)) + 1) ≤ 65536 by omega)) hC (wp_us (by decide) (wp_us (by decide) (wp_us (by decide) (wp_us (by decide) (wp_us (by decide) (wp_us (by decide) (wp_us (by decide) (wp_us (by decide) hW)))))))) ((((j4 + (2 * nr)) / ((2 * nr) + 1)) + 1)) (by omega)) ?_
                                rintro _ _ ⟨r51, rfl, rfl, b52, k53, k54⟩
                                show tt Zi d 28 (281, [some (.inr (.inl 8)), some (.inr (.inl 3)), some (.inl bits), some (.inl nr), some (.inl ((mi_shl 1 bits) - 1)), none], [.inl r51, .inr (.inl 8)], n, D, (us (us (us (us (us (us (us (us s 800 j4) 801 nr) 802 j16) 803 j24) 804 j31) 805 j38) 806 ((2 * nr) + 1)) 807 ((((j4 + (2 * nr)) / ((2 * nr) + 1)) + 1))), p, c) _
                                replace k53 : r51 = ke ((((j4 + (2 * nr)) / ((2 * nr) + 1)) + 1)) 1 := k53
                                replace k54 : ((((j4 + (2 * nr)) / ((2 * nr) + 1)) + 1)) ≤ 65536 → r51 ≤ 16 := k54
                                refine tt_k 6 (S' := (291, [some (.inr (.inl 8)), some (.inr (.inl 3)), some (.inl bits), some (.inl nr), some (.inl ((mi_shl 1 bits) - 1)), none], [.inl (j4 + 1), .inl 2], n, D, (us (us (us (us (us (us (us (us (us s 800 j4) 801 nr) 802 j16) 803 j24) 804 j31) 805 j38) 806 ((2 * nr) + 1)) 807 ((((j4 + (2 * nr)) / ((2 * nr) + 1)) + 1))) 808 r51), p, c)) rfl ?_
                                refine tt_cl (by omega) rfl (e_bitsFor (Zi := Zi) (q := q) (n := n) (D := D) (s := (us (us (us (us (us (us (us (us (us s 800 j4) 801 nr) 802 j16) 803 j24) 804 j31) 805 j38) 806 ((2 * nr) + 1)) 807 ((((j4 + (2 * nr)) / ((2 * nr) + 1)) + 1))) 808 r51)) (p := p) (c := c) (by omega) hz (by omega) hD (bS_us (bS_us (bS_us (bS_us (bS_us (bS_us (bS_us (bS_us (bS_us hS (show 0 ≤ j4 ∧ j4 ≤ 65535 by omega)) (show -2147483648 ≤ nr ∧ nr ≤ 2147483647 by omega)) (show -2147483648 ≤ j16 ∧ j16 ≤ 2147483647 by omega)) (show -2147483648 ≤ j24 ∧ j24 ≤ 2147483647 by omega)) (show -2147483648 ≤ j31 ∧ j31 ≤ 2147483647 by omega)) (show 0 ≤ j38 ∧ j38 ≤ 65535 by omega)) (show 1 ≤ ((2 * nr) + 1) ∧ ((2 * nr) + 1) ≤ 511 by omega)) (show 0 ≤ (((j4 + (2 * nr)) / ((2 * nr) + 1)) + 1) ∧ (((j4 + (2 * nr)) / ((2 * nr) + 1)) + 1) ≤ 65536 by omega)) (show 0 ≤ r51 ∧ r51 ≤ 30 by omega)) hC (wp_us (by decide) (wp_us (by decide) (wp_us (by decide) (wp_us (by decide) (wp_us (by decide) (wp_us (by decide) (wp_us (by decide) (wp_us (by decide) (wp_us (by decide) hW))))))))) (j4 + 1) (by omega)) ?_
                                rintro _ _ ⟨r55, rfl, rfl, b56, k57, k58⟩
                                show tt Zi d 28 (294, [some (.inr (.inl 8)), some (.inr (.inl 3)), some (.inl bits), some (.inl nr), some (.inl ((mi_shl 1 bits) - 1)), none], [.inl r55, .inl 2], n, D, (us (us (us (us (us (us (us (us (us s 800 j4) 801 nr) 802 j16) 803 j24) 804 j31) 805 j38) 806 ((2 * nr) + 1)) 807 ((((j4 + (2 * nr)) / ((2 * nr) + 1)) + 1))) 808 r51), p, c) _
                                replace k57 : r55 = ke (j4 + 1) 1 := k57
                                replace k58 : (j4 + 1) ≤ 65536 → r55 ≤ 16 := k58
                                refine tt_max (k := 0) (x := 2) (y := r55) rfl rfl (Nat.le_of_ble_eq_true rfl) (by omega) ?_
                                refine tt_k 6 (S' := (307, [some (.inr (.inl 8)), some (.inr (.inl 3)), some (.inl bits), some (.inl nr), some (.inl ((mi_shl 1 bits) - 1)), some (.inl (max 2 r55))], [.inl (max 2 r55), .inl 8, .inl (max 2 r55), .inl 2, .inr (.inl 8)], n, D, (us (us (us (us (us (us (us (us (us s 800 j4) 801 nr) 802 j16) 803 j24) 804 j31) 805 j38) 806 ((2 * nr) + 1)) 807 ((((j4 + (2 * nr)) / ((2 * nr) + 1)) + 1))) 808 r51), p, c)) rfl ?_
                                refine tt_max (k := 0) (x := 8) (y := (max 2 r55)) rfl rfl (Nat.le_of_ble_eq_true rfl) (by omega) ?_
                                refine tt_k 4 (S' := (316, [some (.inr (.inl 8)), some (.inr (.inl 3)), some (.inl bits), some (.inl nr), some (.inl ((mi_shl 1 bits) - 1)), some (.inl (max 2 r55))], [.inl 1], n, D, (us (us (us (us (us (us (us (us (us (us s 800 j4) 801 nr) 802 j16) 803 j24) 804 j31) 805 j38) 806 ((2 * nr) + 1)) 807 ((((j4 + (2 * nr)) / ((2 * nr) + 1)) + 1))) 808 r51) 809 ((2 * ((max 2 r55) + (max 8 (max 2 r55)))))), p, c)) rfl ?_
                                exact tt_rtb rfl rfl (by omega) ⟨(us (us (us (us (us (us (us (us (us (us s 800 j4) 801 nr) 802 j16) 803 j24) 804 j31) 805 j38) 806 ((2 * nr) + 1)) 807 ((((j4 + (2 * nr)) / ((2 * nr) + 1)) + 1))) 808 r51) 809 ((2 * ((max 2 r55) + (max 8 (max 2 r55)))))), 1, rfl, rfl, (bS_us (bS_us (bS_us (bS_us (bS_us (bS_us (bS_us (bS_us (bS_us (bS_us hS (show 0 ≤ j4 ∧ j4 ≤ 65535 by omega)) (show -2147483648 ≤ nr ∧ nr ≤ 2147483647 by omega)) (show -2147483648 ≤ j16 ∧ j16 ≤ 2147483647 by omega)) (show -2147483648 ≤ j24 ∧ j24 ≤ 2147483647 by omega)) (show -2147483648 ≤ j31 ∧ j31 ≤ 2147483647 by omega)) (show 0 ≤ j38 ∧ j38 ≤ 65535 by omega)) (show 1 ≤ ((2 * nr) + 1) ∧ ((2 * nr) + 1) ≤ 511 by omega)) (show 0 ≤ (((j4 + (2 * nr)) / ((2 * nr) + 1)) + 1) ∧ (((j4 + (2 * nr)) / ((2 * nr) + 1)) + 1) ≤ 65536 by omega)) (show 0 ≤ r51 ∧ r51 ≤ 30 by omega)) (show 0 ≤ (2 * ((max 2 r55) + (max 8 (max 2 r55)))) ∧ (2 * ((max 2 r55) + (max 8 (max 2 r55)))) ≤ 64 by omega)), (wp_us (by decide) (wp_us (by decide) (wp_us (by decide) (wp_us (by decide) (wp_us (by decide) (wp_us (by decide) (wp_us (by decide) (wp_us (by decide) (wp_us (by decide) (wp_us (by decide) hW)))))))))), (fr_us (by decide) (fr_us (by decide) (fr_us (by decide) (fr_us (by decide) (fr_us (by decide) (fr_us (by decide) (fr_us (by decide) (fr_us (by decide) (fr_us (by decide) (fr_us (by decide) fr_rf)))))))))), by omega, by show (1 = 1 ∧ VM (c 3 0) (c 3 1) (c 3 2) (c 3 3) (c 3 4) bits nr ∧ zq (ZM (c 3 0) (c 3 1) (c 3 2) (c 3 3) (c 3 4) bits nr) (j4) (nr) (j16) (j24) (j31) (j38) (((2 * nr) + 1)) (((((j4 + (2 * nr)) / ((2 * nr) + 1)) + 1))) (r51) (((2 * ((max 2 r55) + (max 8 (max 2 r55))))))) ∨ (1 = 0 ∧ ¬ VM (c 3 0) (c 3 1) (c 3 2) (c 3 3) (c 3 4) bits nr); exact Or.inl ⟨rfl, by unfold VM; omega, b8, rfl, b20, b28, b35, b42, rfl, by show _ = zRg (zMo (c 3 0) bits) nr; rw [← b8]; rfl, by show _ = ke (zRg (zMo (c 3 0) bits) nr) 1; rw [k53, ← b8]; rfl, by show _ = zLo (zMo (c 3 0) bits); rw [← b8]; unfold zLo zBo; rw [← k57]⟩⟩
                              · show tt Zi d 28 (237, [some (.inr (.inl 8)), some (.inr (.inl 3)), some (.inl bits), some (.inl nr), some (.inl ((mi_shl 1 bits) - 1)), none], [], n, D, (us (us (us (us (us (us s 800 j4) 801 nr) 802 j16) 803 j24) 804 j31) 805 j38), p, c) _
                                refine tt_k 1 (S' := (238, [some (.inr (.inl 8)), some (.inr (.inl 3)), some (.inl bits), some (.inl nr), some (.inl ((mi_shl 1 bits) - 1)), none], [.inl 0], n, D, (us (us (us (us (us (us s 800 j4) 801 nr) 802 j16) 803 j24) 804 j31) 805 j38), p, c)) rfl ?_
                                exact tt_rtb rfl rfl (by omega) ⟨(us (us (us (us (us (us s 800 j4) 801 nr) 802 j16) 803 j24) 804 j31) 805 j38), 0, rfl, rfl, (bS_us (bS_us (bS_us (bS_us (bS_us (bS_us hS (show 0 ≤ j4 ∧ j4 ≤ 65535 by omega)) (show -2147483648 ≤ nr ∧ nr ≤ 2147483647 by omega)) (show -2147483648 ≤ j16 ∧ j16 ≤ 2147483647 by omega)) (show -2147483648 ≤ j24 ∧ j24 ≤ 2147483647 by omega)) (show -2147483648 ≤ j31 ∧ j31 ≤ 2147483647 by omega)) (show 0 ≤ j38 ∧ j38 ≤ 65535 by omega)), (wp_us (by decide) (wp_us (by decide) (wp_us (by decide) (wp_us (by decide) (wp_us (by decide) (wp_us (by decide) hW)))))), (fr_us (by decide) (fr_us (by decide) (fr_us (by decide) (fr_us (by decide) (fr_us (by decide) (fr_us (by decide) fr_rf)))))), by omega, by show (0 = 1 ∧ VM (c 3 0) (c 3 1) (c 3 2) (c 3 3) (c 3 4) bits nr ∧ zq (ZM (c 3 0) (c 3 1) (c 3 2) (c 3 3) (c 3 4) bits nr) (j4) (nr) (j16) (j24) (j31) (j38) ((s 806)) ((s 807)) ((s 808)) ((s 809))) ∨ (0 = 0 ∧ ¬ VM (c 3 0) (c 3 1) (c 3 2) (c 3 3) (c 3 4) bits nr); exact Or.inr ⟨rfl, by unfold VM; omega⟩⟩
                          · show tt Zi d 28 (210, [some (.inr (.inl 8)), some (.inr (.inl 3)), some (.inl bits), some (.inl nr), some (.inl ((mi_shl 1 bits) - 1)), none], [], n, D, (us (us (us (us (us (us s 800 j4) 801 nr) 802 j16) 803 j24) 804 j31) 805 j38), p, c) _
                            refine tt_k 1 (S' := (211, [some (.inr (.inl 8)), some (.inr (.inl 3)), some (.inl bits), some (.inl nr), some (.inl ((mi_shl 1 bits) - 1)), none], [.inl 0], n, D, (us (us (us (us (us (us s 800 j4) 801 nr) 802 j16) 803 j24) 804 j31) 805 j38), p, c)) rfl ?_
                            exact tt_rtb rfl rfl (by omega) ⟨(us (us (us (us (us (us s 800 j4) 801 nr) 802 j16) 803 j24) 804 j31) 805 j38), 0, rfl, rfl, (bS_us (bS_us (bS_us (bS_us (bS_us (bS_us hS (show 0 ≤ j4 ∧ j4 ≤ 65535 by omega)) (show -2147483648 ≤ nr ∧ nr ≤ 2147483647 by omega)) (show -2147483648 ≤ j16 ∧ j16 ≤ 2147483647 by omega)) (show -2147483648 ≤ j24 ∧ j24 ≤ 2147483647 by omega)) (show -2147483648 ≤ j31 ∧ j31 ≤ 2147483647 by omega)) (show 0 ≤ j38 ∧ j38 ≤ 65535 by omega)), (wp_us (by decide) (wp_us (by decide) (wp_us (by decide) (wp_us (by decide) (wp_us (by decide) (wp_us (by decide) hW)))))), (fr_us (by decide) (fr_us (by decide) (fr_us (by decide) (fr_us (by decide) (fr_us (by decide) (fr_us (by decide) fr_rf)))))), by omega, by show (0 = 1 ∧ VM (c 3 0) (c 3 1) (c 3 2) (c 3 3) (c 3 4) bits nr ∧ zq (ZM (c 3 0) (c 3 1) (c 3 2) (c 3 3) (c 3 4) bits nr) (j4) (nr) (j16) (j24) (j31) (j38) ((s 806)) ((s 807)) ((s 808)) ((s 809))) ∨ (0 = 0 ∧ ¬ VM (c 3 0) (c 3 1) (c 3 2) (c 3 3) (c 3 4) bits nr); exact Or.inr ⟨rfl, by unfold VM; omega⟩⟩
                  refine tz_ne (x := v36) rfl rfl (by omega) (fun h59 => ?_) (fun h59 => ?_)
                  · show tt Zi d 28 (160, [some (.inr (.inl 8)), some (.inr (.inl 3)), some (.inl bits), some (.inl nr), some (.inl ((mi_shl 1 bits) - 1)), none], [.inr (.inl 8)], n, D, (us (us (us (us (us s 800 j4) 801 nr) 802 j16) 803 j24) 804 j31), p, c) _
                    refine tt_k 2 (S' := (162, [some (.inr (.inl 8)), some (.inr (.inl 3)), some (.inl bits), some (.inl nr), some (.inl ((mi_shl 1 bits) - 1)), none], [.inl 4, .inr (.inl 3), .inr (.inl 8)], n, D, (us (us (us (us (us s 800 j4) 801 nr) 802 j16) 803 j24) 804 j31), p, c)) rfl ?_
                    refine tt_ilb (i := 4) (m := 5) (lo := 0) (hi := 65535) rfl rfl (by omega) hC ⟨rfl, rfl⟩ ?_
                    intro v60 b61 hvv60
                    show tt Zi d 28 (163, [some (.inr (.inl 8)), some (.inr (.inl 3)), some (.inl bits), some (.inl nr), some (.inl ((mi_shl 1 bits) - 1)), none], [.inl v60, .inr (.inl 8)], n, D, (us (us (us (us (us s 800 j4) 801 nr) 802 j16) 803 j24) 804 j31), p, c) _
                    have gv60 : c 3 4 = v60 := hvv60
                    exact K39 v60  (by omega) (by unfold zHa; first | (rw [if_neg (by omega)]; omega) | (rw [if_pos (by omega)])) (trivial)
                  · show tt Zi d 28 (155, [some (.inr (.inl 8)), some (.inr (.inl 3)), some (.inl bits), some (.inl nr), some (.inl ((mi_shl 1 bits) - 1)), none], [.inr (.inl 8)], n, D, (us (us (us (us (us s 800 j4) 801 nr) 802 j16) 803 j24) 804 j31), p, c) _
                    refine tt_k 2 (S' := (163, [some (.inr (.inl 8)), some (.inr (.inl 3)), some (.inl bits), some (.inl nr), some (.inl ((mi_shl 1 bits) - 1)), none], [.inl 64, .inr (.inl 8)], n, D, (us (us (us (us (us s 800 j4) 801 nr) 802 j16) 803 j24) 804 j31), p, c)) rfl ?_
                    exact K39 64  (by omega) (by unfold zHa; first | (rw [if_neg (by omega)]; omega) | (rw [if_pos (by omega)])) (trivial)
                refine tz_ne (x := v29) rfl rfl (by omega) (fun h62 => ?_) (fun h62 => ?_)
                · show tt Zi d 28 (142, [some (.inr (.inl 8)), some (.inr (.inl 3)), some (.inl bits), some (.inl nr), some (.inl ((mi_shl 1 bits) - 1)), none], [.inr (.inl 8)], n, D, (us (us (us (us s 800 j4) 801 nr) 802 j16) 803 j24), p, c) _
                  refine tt_k 2 (S' := (144, [some (.inr (.inl 8)), some (.inr (.inl 3)), some (.inl bits), some (.inl nr), some (.inl ((mi_shl 1 bits) - 1)), none], [.inl 3, .inr (.inl 3), .inr (.inl 8)], n, D, (us (us (us (us s 800 j4) 801 nr) 802 j16) 803 j24), p, c)) rfl ?_
                  refine tt_ilb (i := 3) (m := 5) (lo := 0) (hi := 65535) rfl rfl (by omega) hC ⟨rfl, rfl⟩ ?_
                  intro v63 b64 hvv63
                  show tt Zi d 28 (145, [some (.inr (.inl 8)), some (.inr (.inl 3)), some (.inl bits), some (.inl nr), some (.inl ((mi_shl 1 bits) - 1)), none], [.inl v63, .inr (.inl 8)], n, D, (us (us (us (us s 800 j4) 801 nr) 802 j16) 803 j24), p, c) _
                  have gv63 : c 3 3 = v63 := hvv63
                  exact K32 v63  (by omega) (by unfold zT3; first | (rw [if_neg (by omega)]; omega) | (rw [if_pos (by omega), ← b28, ← b8]; exact kpl)) (trivial)
                · show tt Zi d 28 (130, [some (.inr (.inl 8)), some (.inr (.inl 3)), some (.inl bits), some (.inl nr), some (.inl ((mi_shl 1 bits) - 1)), none], [.inr (.inl 8)], n, D, (us (us (us (us s 800 j4) 801 nr) 802 j16) 803 j24), p, c) _
                  refine tt_k 4 (S' := (136, [some (.inr (.inl 8)), some (.inr (.inl 3)), some (.inl bits), some (.inl nr), some (.inl ((mi_shl 1 bits) - 1)), none], [.inl j24, .inl 2, .inr (.inl 8), .inr (.inl 8)], n, D, (us (us (us (us s 800 j4) 801 nr) 802 j16) 803 j24), p, c)) rfl ?_
                  refine tt_cl (by omega) rfl (e_plain (Zi := Zi) (q := q) (n := n) (D := D) (s := (us (us (us (us s 800 j4) 801 nr) 802 j16) 803 j24)) (p := p) (c := c) (by omega) hz (by omega) hD (bS_us (bS_us (bS_us (bS_us hS (show 0 ≤ j4 ∧ j4 ≤ 65535 by omega)) (show -2147483648 ≤ nr ∧ nr ≤ 2147483647 by omega)) (show -2147483648 ≤ j16 ∧ j16 ≤ 2147483647 by omega)) (show -2147483648 ≤ j24 ∧ j24 ≤ 2147483647 by omega)) hC (wp_us (by decide) (wp_us (by decide) (wp_us (by decide) (wp_us (by decide) hW)))) 2 j24 (by omega) (by omega) (show 0 ≤ nr ∧ nr ≤ 255 by omega) (show 1 ≤ j4 by omega)) ?_
                  rintro _ _ ⟨r65, rfl, rfl, b66, k67⟩
                  show tt Zi d 28 (139, [some (.inr (.inl 8)), some (.inr (.inl 3)), some (.inl bits), some (.inl nr), some (.inl ((mi_shl 1 bits) - 1)), none], [.inl r65, .inr (.inl 8)], n, D, (us (us (us (us s 800 j4) 801 nr) 802 j16) 803 j24), p, c) _
                  replace k67 : r65 = zPl (zPt (p3 3 7 21 2) (p3 2 3 4 2) (p3 3 5 7 2) (j4) (nr)) j24 (j4) := k67
                  have kpl := k67
                  refine tt_k 1 (S' := (145, [some (.inr (.inl 8)), some (.inr (.inl 3)), some (.inl bits), some (.inl nr), some (.inl ((mi_shl 1 bits) - 1)), none], [.inl r65, .inr (.inl 8)], n, D, (us (us (us (us s 800 j4) 801 nr) 802 j16) 803 j24), p, c)) rfl ?_
                  exact K32 r65  (by omega) (by unfold zT3; first | (rw [if_neg (by omega)]; omega) | (rw [if_pos (by omega), ← b28, ← b8]; exact kpl)) (trivial)
              refine tz_ne (x := v22) rfl rfl (by omega) (fun h68 => ?_) (fun h68 => ?_)
              · show tt Zi d 28 (117, [some (.inr (.inl 8)), some (.inr (.inl 3)), some (.inl bits), some (.inl nr), some (.inl ((mi_shl 1 bits) - 1)), none], [.inr (.inl 8)], n, D, (us (us (us s 800 j4) 801 nr) 802 j16), p, c) _
                refine tt_k 2 (S' := (119, [some (.inr (.inl 8)), some (.inr (.inl 3)), some (.inl bits), some (.inl nr), some (.inl ((mi_shl 1 bits) - 1)), none], [.inl 2, .inr (.inl 3), .inr (.inl 8)], n, D, (us (us (us s 800 j4) 801 nr) 802 j16), p, c)) rfl ?_
                refine tt_ilb (i := 2) (m := 5) (lo := 0) (hi := 65535) rfl rfl (by omega) hC ⟨rfl, rfl⟩ ?_
                intro v69 b70 hvv69
                show tt Zi d 28 (120, [some (.inr (.inl 8)), some (.inr (.inl 3)), some (.inl bits), some (.inl nr), some (.inl ((mi_shl 1 bits) - 1)), none], [.inl v69, .inr (.inl 8)], n, D, (us (us (us s 800 j4) 801 nr) 802 j16), p, c) _
                have gv69 : c 3 2 = v69 := hvv69
                exact K25 v69  (by omega) (by unfold zT2; first | (rw [if_neg (by omega)]; omega) | (rw [if_pos (by omega), ← b20, ← b8]; exact kpl)) (trivial)
              · show tt Zi d 28 (105, [some (.inr (.inl 8)), some (.inr (.inl 3)), some (.inl bits), some (.inl nr), some (.inl ((mi_shl 1 bits) - 1)), none], [.inr (.inl 8)], n, D, (us (us (us s 800 j4) 801 nr) 802 j16), p, c) _
                refine tt_k 4 (S' := (111, [some (.inr (.inl 8)), some (.inr (.inl 3)), some (.inl bits), some (.inl nr), some (.inl ((mi_shl 1 bits) - 1)), none], [.inl j16, .inl 1, .inr (.inl 8), .inr (.inl 8)], n, D, (us (us (us s 800 j4) 801 nr) 802 j16), p, c)) rfl ?_
                refine tt_cl (by omega) rfl (e_plain (Zi := Zi) (q := q) (n := n) (D := D) (s := (us (us (us s 800 j4) 801 nr) 802 j16)) (p := p) (c := c) (by omega) hz (by omega) hD (bS_us (bS_us (bS_us hS (show 0 ≤ j4 ∧ j4 ≤ 65535 by omega)) (show -2147483648 ≤ nr ∧ nr ≤ 2147483647 by omega)) (show -2147483648 ≤ j16 ∧ j16 ≤ 2147483647 by omega)) hC (wp_us (by decide) (wp_us (by decide) (wp_us (by decide) hW))) 1 j16 (by omega) (by omega) (show 0 ≤ nr ∧ nr ≤ 255 by omega) (show 1 ≤ j4 by omega)) ?_
                rintro _ _ ⟨r71, rfl, rfl, b72, k73⟩
                show tt Zi d 28 (114, [some (.inr (.inl 8)), some (.inr (.inl 3)), some (.inl bits), some (.inl nr), some (.inl ((mi_shl 1 bits) - 1)), none], [.inl r71, .inr (.inl 8)], n, D, (us (us (us s 800 j4) 801 nr) 802 j16), p, c) _
                replace k73 : r71 = zPl (zPt (p3 3 7 21 1) (p3 2 3 4 1) (p3 3 5 7 1) (j4) (nr)) j16 (j4) := k73
                have kpl := k73
                refine tt_k 1 (S' := (120, [some (.inr (.inl 8)), some (.inr (.inl 3)), some (.inl bits), some (.inl nr), some (.inl ((mi_shl 1 bits) - 1)), none], [.inl r71, .inr (.inl 8)], n, D, (us (us (us s 800 j4) 801 nr) 802 j16), p, c)) rfl ?_
                exact K25 r71  (by omega) (by unfold zT2; first | (rw [if_neg (by omega)]; omega) | (rw [if_pos (by omega), ← b20, ← b8]; exact kpl)) (trivial)
            refine tz_ne (x := v14) rfl rfl (by omega) (fun h74 => ?_) (fun h74 => ?_)
            · show tt Zi d 28 (92, [some (.inr (.inl 8)), some (.inr (.inl 3)), some (.inl bits), some (.inl nr), some (.inl ((mi_shl 1 bits) - 1)), none], [.inr (.inl 8)], n, D, (us (us s 800 j4) 801 nr), p, c) _
              refine tt_k 2 (S' := (94, [some (.inr (.inl 8)), some (.inr (.inl 3)), some (.inl bits), some (.inl nr), some (.inl ((mi_shl 1 bits) - 1)), none], [.inl 1, .inr (.inl 3), .inr (.inl 8)], n, D, (us (us s 800 j4) 801 nr), p, c)) rfl ?_
              refine tt_ilb (i := 1) (m := 5) (lo := 0) (hi := 65535) rfl rfl (by omega) hC ⟨rfl, rfl⟩ ?_
              intro v75 b76 hvv75
              show tt Zi d 28 (95, [some (.inr (.inl 8)), some (.inr (.inl 3)), some (.inl bits), some (.inl nr), some (.inl ((mi_shl 1 bits) - 1)), none], [.inl v75, .inr (.inl 8)], n, D, (us (us s 800 j4) 801 nr), p, c) _
              have gv75 : c 3 1 = v75 := hvv75
              exact K17 v75  (by omega) (by unfold zT1; first | (rw [if_neg (by omega)]; omega) | (rw [if_pos (by omega), ← b8]; exact kpl)) (by omega) (trivial)
            · show tt Zi d 28 (78, [some (.inr (.inl 8)), some (.inr (.inl 3)), some (.inl bits), some (.inl nr), some (.inl ((mi_shl 1 bits) - 1)), none], [.inr (.inl 8)], n, D, (us (us s 800 j4) 801 nr), p, c) _
              refine tt_k 6 (S' := (86, [some (.inr (.inl 8)), some (.inr (.inl 3)), some (.inl bits), some (.inl nr), some (.inl ((mi_shl 1 bits) - 1)), none], [.inl (nr + 1), .inl 0, .inr (.inl 8), .inr (.inl 8)], n, D, (us (us s 800 j4) 801 nr), p, c)) rfl ?_
              refine tt_cl (by omega) rfl (e_plain (Zi := Zi) (q := q) (n := n) (D := D) (s := (us (us s 800 j4) 801 nr)) (p := p) (c := c) (by omega) hz (by omega) hD (bS_us (bS_us hS (show 0 ≤ j4 ∧ j4 ≤ 65535 by omega)) (show -2147483648 ≤ nr ∧ nr ≤ 2147483647 by omega)) hC (wp_us (by decide) (wp_us (by decide) hW)) 0 (nr + 1) (by omega) (by omega) (show 0 ≤ nr ∧ nr ≤ 255 by omega) (show 1 ≤ j4 by omega)) ?_
              rintro _ _ ⟨r77, rfl, rfl, b78, k79⟩
              show tt Zi d 28 (89, [some (.inr (.inl 8)), some (.inr (.inl 3)), some (.inl bits), some (.inl nr), some (.inl ((mi_shl 1 bits) - 1)), none], [.inl r77, .inr (.inl 8)], n, D, (us (us s 800 j4) 801 nr), p, c) _
              replace k79 : r77 = zPl (zPt (p3 3 7 21 0) (p3 2 3 4 0) (p3 3 5 7 0) (j4) (nr)) (nr + 1) (j4) := k79
              have kpl := k79
              refine tt_k 1 (S' := (95, [some (.inr (.inl 8)), some (.inr (.inl 3)), some (.inl bits), some (.inl nr), some (.inl ((mi_shl 1 bits) - 1)), none], [.inl r77, .inr (.inl 8)], n, D, (us (us s 800 j4) 801 nr), p, c)) rfl ?_
              exact K17 r77  (by omega) (by unfold zT1; first | (rw [if_neg (by omega)]; omega) | (rw [if_pos (by omega), ← b8]; exact kpl)) (by omega) (trivial)
          · show tt Zi d 28 (69, [some (.inr (.inl 8)), some (.inr (.inl 3)), some (.inl bits), some (.inl nr), some (.inl ((mi_shl 1 bits) - 1)), none], [], n, D, (us (us s 800 j4) 801 nr), p, c) _
            refine tt_k 1 (S' := (70, [some (.inr (.inl 8)), some (.inr (.inl 3)), some (.inl bits), some (.inl nr), some (.inl ((mi_shl 1 bits) - 1)), none], [.inl 0], n, D, (us (us s 800 j4) 801 nr), p, c)) rfl ?_
            exact tt_rtb rfl rfl (by omega) ⟨(us (us s 800 j4) 801 nr), 0, rfl, rfl, (bS_us (bS_us hS (show 0 ≤ j4 ∧ j4 ≤ 65535 by omega)) (show -2147483648 ≤ nr ∧ nr ≤ 2147483647 by omega)), (wp_us (by decide) (wp_us (by decide) hW)), (fr_us (by decide) (fr_us (by decide) fr_rf)), by omega, by show (0 = 1 ∧ VM (c 3 0) (c 3 1) (c 3 2) (c 3 3) (c 3 4) bits nr ∧ zq (ZM (c 3 0) (c 3 1) (c 3 2) (c 3 3) (c 3 4) bits nr) (j4) (nr) ((s 802)) ((s 803)) ((s 804)) ((s 805)) ((s 806)) ((s 807)) ((s 808)) ((s 809))) ∨ (0 = 0 ∧ ¬ VM (c 3 0) (c 3 1) (c 3 2) (c 3 3) (c 3 4) bits nr); exact Or.inr ⟨rfl, by unfold VM; omega⟩⟩
  refine tz_ne (x := v2) rfl rfl (by omega) (fun h80 => ?_) (fun h80 => ?_)
  · show tt Zi d 28 (19, [some (.inr (.inl 8)), some (.inr (.inl 3)), some (.inl bits), some (.inl nr), some (.inl ((mi_shl 1 bits) - 1)), none], [.inr (.inl 8)], n, D, s, p, c) _
    refine tt_k 2 (S' := (21, [some (.inr (.inl 8)), some (.inr (.inl 3)), some (.inl bits), some (.inl nr), some (.inl ((mi_shl 1 bits) - 1)), none], [.inl 0, .inr (.inl 3), .inr (.inl 8)], n, D, s, p, c)) rfl ?_
    refine tt_ilb (i := 0) (m := 5) (lo := 0) (hi := 65535) rfl rfl (by omega) hC ⟨rfl, rfl⟩ ?_
    intro v81 b82 hvv81
    show tt Zi d 28 (22, [some (.inr (.inl 8)), some (.inr (.inl 3)), some (.inl bits), some (.inl nr), some (.inl ((mi_shl 1 bits) - 1)), none], [.inl v81, .inr (.inl 8)], n, D, s, p, c) _
    have gv81 : c 3 0 = v81 := hvv81
    exact K5 v81  (by omega) (by unfold zMo; first | (rw [if_neg (by omega)]; omega) | (rw [if_pos (by omega)]; omega)) (by omega) (trivial)
  · show tt Zi d 28 (14, [some (.inr (.inl 8)), some (.inr (.inl 3)), some (.inl bits), some (.inl nr), some (.inl ((mi_shl 1 bits) - 1)), none], [.inr (.inl 8)], n, D, s, p, c) _
    refine tt_k 2 (S' := (22, [some (.inr (.inl 8)), some (.inr (.inl 3)), some (.inl bits), some (.inl nr), some (.inl ((mi_shl 1 bits) - 1)), none], [.inl ((mi_shl 1 bits) - 1), .inr (.inl 8)], n, D, s, p, c)) rfl ?_
    exact K5 ((mi_shl 1 bits) - 1)  (by omega) (by unfold zMo; first | (rw [if_neg (by omega)]; omega) | (rw [if_pos (by omega)]; omega)) (by omega) (trivial)
set_option maxRecDepth 100000 in
set_option maxHeartbeats 4000000 in
theorem e_hasAbove1_L17 {g : Nat → Int} {Zi : Nat → Option (Nat × (Nat → Int))} {d n q : Nat} {D : Nat → Nat × Nat} {s : Nat → Int} {p : Nat → Nat} {c : Nat → Nat → Int}  {Q : mi_Rs → mi_H → Prop} (hd : 0 ≤ d) (hz : zk Zi) (hq : q + 0 ≤ 400001) (hD : wd n p) (hS : bS s) (hC : bC D c) (hW : wp q g n D p s) (v : Int) (us_ : Int) (b_v : -2147483648 ≤ v ∧ v ≤ 2147483647) (b_us_ : -2147483648 ≤ us_ ∧ us_ ≤ 2147483647) (hq0 : us_ ≤ (ln D (p 104) : Int) ∧ (ln D (p 104) : Int) ≤ 12288) (hR : (∃ j : Int, (0 ≤ j ∧ j < us_) ∧ v < c (p 104) j.toNat) → Q (.inl (some (.inl 1))) (n, D, s, p, c))
  (hK : ∀ (i : Int) (b_i : 0 ≤ i ∧ i ≤ 12288) (i0 : ∀ j : Int, 0 ≤ j → j < i → c (p 104) j.toNat ≤ v) (i1 : i ≤ us_), (us_ ≤ i) → tt Zi d 107 (40, [some (.inr (.inl 1)), some (.inl v), some (.inl us_), some (.inl i)], [], n, D, s, p, c) Q) :
  ∀ (m : Nat) (i : Int) (b_i : 0 ≤ i ∧ i ≤ 12288) (i0 : ∀ j : Int, 0 ≤ j → j < i → c (p 104) j.toNat ≤ v) (i1 : i ≤ us_), (us_ - i).toNat < m → tt Zi d 107 (17, [some (.inr (.inl 1)), some (.inl v), some (.inl us_), some (.inl i)], [], n, D, s, p, c) Q := by
  intro m
  induction m with
  | zero => intro i b_i i0 i1 hm; exact absurd hm (by omega)
  | succ m ih =>
    intro i b_i i0 i1 hm
    refine tt_k 2 (S' := (19, [some (.inr (.inl 1)), some (.inl v), some (.inl us_), some (.inl i)], [.inl us_, .inl i], n, D, s, p, c)) rfl ?_
    refine tb_ge (x := i) (y := us_) rfl rfl (by omega) (fun h1 => ?_) (fun h1 => ?_)
    · show tt Zi d 107 (40, [some (.inr (.inl 1)), some (.inl v), some (.inl us_), some (.inl i)], [], n, D, s, p, c) _
      exact hK i (by omega) i0 i1 (by omega)
    · show tt Zi d 107 (22, [some (.inr (.inl 1)), some (.inl v), some (.inl us_), some (.inl i)], [], n, D, s, p, c) _
      refine tt_k 3 (S' := (27, [some (.inr (.inl 1)), some (.inl v), some (.inl us_), some (.inl i)], [.inl i, .inr (.inl (p 104))], n, D, s, p, c)) rfl ?_
      refine tt_ilb (i := i) (m := (ln D (p 104))) (lo := 0) (hi := 65535) rfl ((hW).p1.1) (by omega) hC ((hW).p1.2.1) ?_
      intro v2 b3 hvv2
      show tt Zi d 107 (28, [some (.inr (.inl 1)), some (.inl v), some (.inl us_), some (.inl i)], [.inl v2], n, D, s, p, c) _
      refine tt_k 1 (S' := (29, [some (.inr (.inl 1)), some (.inl v), some (.inl us_), some (.inl i)], [.inl v, .inl v2], n, D, s, p, c)) rfl ?_
      refine tb_le (x := v2) (y := v) rfl rfl (by omega) (fun h4 => ?_) (fun h4 => ?_)
      · show tt Zi d 107 (34, [some (.inr (.inl 1)), some (.inl v), some (.inl us_), some (.inl i)], [], n, D, s, p, c) _
        refine tt_k 2 (S' := (17, [some (.inr (.inl 1)), some (.inl v), some (.inl us_), some (.inl (i + 1))], [], n, D, s, p, c)) rfl ?_
        exact ih (i + 1) (by omega) (fun j h1 h2 => if e : j = i then (by rw [e]; omega) else (by exact i0 j h1 (by omega))) (show (i + 1) ≤ us_ by omega) (show (us_ - (i + 1)).toNat < m by omega)
      · show tt Zi d 107 (32, [some (.inr (.inl 1)), some (.inl v), some (.inl us_), some (.inl i)], [], n, D, s, p, c) _
        refine tt_k 1 (S' := (33, [some (.inr (.inl 1)), some (.inl v), some (.inl us_), some (.inl i)], [.inl 1], n, D, s, p, c)) rfl ?_
        exact tt_rtb rfl rfl (by omega) (hR ⟨i, ⟨by omega, by omega⟩, by omega⟩)
set_option maxRecDepth 100000 in
set_option maxHeartbeats 4000000 in
theorem e_hasAbove1 {g : Nat → Int} {Zi : Nat → Option (Nat × (Nat → Int))} {d n q : Nat} {D : Nat → Nat × Nat} {s : Nat → Int} {p : Nat → Nat} {c : Nat → Nat → Int} (hd : 0 ≤ d) (hz : zk Zi) (hq : q + 0 ≤ 400000) (hD : wd n p) (hS : bS s) (hC : bC D c) (hW : wp q g n D p s) (v : Int) (b_v : -2147483648 ≤ v ∧ v ≤ 2147483647) : tt Zi d 107 (0, [some (.inr (.inl 1)), some (.inl v), none, none], [], n, D, s, p, c) (fun R H => ∃ (r : Int), R = .inl (some (.inl r)) ∧ H = (n, D, s, p, c) ∧ (0 ≤ r ∧ r ≤ 1) ∧ ((r = 0 ∧ ∀ j : Int, 0 ≤ j → j < s 100 * s 101 * s 102 → c (p 104) j.toNat ≤ v) ∨ (r = 1 ∧ ∃ j : Int, (0 ≤ j ∧ j < s 100 * s 101 * s 102) ∧ v < c (p 104) j.toNat))) := by
  have b1 : ln D (p 104) ≤ 12288 := (hW).p1.2.2
  have b2 : 1 ≤ (s 100) ∧ (s 100) ≤ 64 := hS 100
  have b3 : 1 ≤ (s 101) ∧ (s 101) ≤ 64 := hS 101
  have b4 : 1 ≤ (s 102) ∧ (s 102) ≤ 3 := hS 102
  have hw3 : 0 ≤ s 100 * s 101 * s 102 := Int.mul_nonneg (Int.mul_nonneg (by omega) (by omega)) (by omega)
  have hw4 := hW.w1
  refine tt_k 11 (S' := (17, [some (.inr (.inl 1)), some (.inl v), some (.inl ((((s 100) * (s 101)) * (s 102)))), some (.inl 0)], [], n, D, s, p, c)) rfl ?_
  have m5 := mul_bd (e := (s 100)) (st := (s 101)) (a := 64) (b := 64) (by omega) (by omega) (by omega) (by omega) (by omega)
  have m6 := mul_bd (e := ((s 100) * (s 101))) (st := (s 102)) (a := 4096) (b := 3) (by omega) (by omega) (by omega) (by omega) (by omega)
  refine e_hasAbove1_L17 (Zi := Zi) (q := q) (n := n) (D := D) (s := s) (p := p) (c := c) hd hz (by omega) hD hS hC hW  v ((((s 100) * (s 101)) * (s 102))) (by omega) (by omega) (show _ ∧ _ from ⟨hW.w1, by omega⟩) (fun h => ⟨1, rfl, rfl, by omega, Or.inr ⟨rfl, h⟩⟩) ?_ _ 0 (by omega) (fun j h1 h2 => absurd h2 (by omega)) (show 0 ≤ ((((s 100) * (s 101)) * (s 102))) by omega) (Nat.lt_succ_self _)
  intro x7 b8 i9 i10 hx11
  show tt Zi d 107 (40, [some (.inr (.inl 1)), some (.inl v), some (.inl ((((s 100) * (s 101)) * (s 102)))), some (.inl x7)], [], n, D, s, p, c) _
  replace i9 : ∀ j : Int, 0 ≤ j → j < x7 → (c (p 104)) j.toNat ≤ v := i9
  replace i10 : x7 ≤ ((((s 100) * (s 101)) * (s 102))) := i10
  replace hx11 : ((((s 100) * (s 101)) * (s 102))) ≤ x7 := hx11
  refine tt_k 1 (S' := (41, [some (.inr (.inl 1)), some (.inl v), some (.inl ((((s 100) * (s 101)) * (s 102)))), some (.inl x7)], [.inl 0], n, D, s, p, c)) rfl ?_
  exact tt_rtb rfl rfl (by omega) ⟨0, rfl, rfl, by omega, Or.inl ⟨rfl, fun j h1 h2 => i9 j h1 (by have h2 : j < s 100 * s 101 * s 102 := h2; omega)⟩⟩
set_option maxRecDepth 100000 in
set_option maxHeartbeats 4000000 in
theorem e_hasChosen_L10 {g : Nat → Int} {Zi : Nat → Option (Nat × (Nat → Int))} {d n q : Nat} {D : Nat → Nat × Nat} {s : Nat → Int} {p : Nat → Nat} {c : Nat → Nat → Int}  {Q : mi_Rs → mi_H → Prop} (hd : 0 ≤ d) (hz : zk Zi) (hq : q + 0 ≤ 400001) (hD : wd n p) (hS : bS s) (hC : bC D c) (hW : wp q g n D p s) (l_ : Int) (b_l_ : 5 ≤ l_ ∧ l_ ≤ 5) (hR : ¬ (c 3 0 = 0 ∧ c 3 1 = 0 ∧ c 3 2 = 0 ∧ c 3 3 = 0 ∧ c 3 4 = 0) → Q (.inl (some (.inl 1))) (n, D, s, p, c))
  (hK : ∀ (i : Int) (o_4 : Option mi_V) (b_i : 0 ≤ i ∧ i ≤ 5) (i0 : ∀ j : Int, 0 ≤ j → j < i → c 3 j.toNat = 0), (5 ≤ i) → tt Zi d 111 (33, [some (.inr (.inl 0)), some (.inr (.inl 3)), some (.inl l_), some (.inl i), o_4], [], n, D, s, p, c) Q) :
  ∀ (m : Nat) (i : Int) (o_4 : Option mi_V) (b_i : 0 ≤ i ∧ i ≤ 5) (i0 : ∀ j : Int, 0 ≤ j → j < i → c 3 j.toNat = 0), (5 - i).toNat < m → tt Zi d 111 (10, [some (.inr (.inl 0)), some (.inr (.inl 3)), some (.inl l_), some (.inl i), o_4], [], n, D, s, p, c) Q := by
  intro m
  induction m with
  | zero => intro i o_4 b_i i0 hm; exact absurd hm (by omega)
  | succ m ih =>
    intro i o_4 b_i i0 hm
    refine tt_k 2 (S' := (12, [some (.inr (.inl 0)), some (.inr (.inl 3)), some (.inl l_), some (.inl i), o_4], [.inl l_, .inl i], n, D, s, p, c)) rfl ?_
    refine tb_ge (x := i) (y := l_) rfl rfl (by omega) (fun h1 => ?_) (fun h1 => ?_)
    · show tt Zi d 111 (33, [some (.inr (.inl 0)), some (.inr (.inl 3)), some (.inl l_), some (.inl i), o_4], [], n, D, s, p, c) _
      exact hK i (o_4) (by omega) i0 (by omega)
    · show tt Zi d 111 (15, [some (.inr (.inl 0)), some (.inr (.inl 3)), some (.inl l_), some (.inl i), o_4], [], n, D, s, p, c) _
      refine tt_k 2 (S' := (17, [some (.inr (.inl 0)), some (.inr (.inl 3)), some (.inl l_), some (.inl i), o_4], [.inl i, .inr (.inl 3)], n, D, s, p, c)) rfl ?_
      refine tt_ilb (i := i) (m := 5) (lo := 0) (hi := 65535) rfl rfl (by omega) hC ⟨rfl, rfl⟩ ?_
      intro v2 b3 hvv2
      show tt Zi d 111 (18, [some (.inr (.inl 0)), some (.inr (.inl 3)), some (.inl l_), some (.inl i), o_4], [.inl v2], n, D, s, p, c) _
      refine tt_k 2 (S' := (22, [some (.inr (.inl 0)), some (.inr (.inl 3)), some (.inl l_), some (.inl i), some (.inl v2)], [.inl v2], n, D, s, p, c)) rfl ?_
      refine tz_eq (x := v2) rfl rfl (by omega) (fun h4 => ?_) (fun h4 => ?_)
      · show tt Zi d 111 (27, [some (.inr (.inl 0)), some (.inr (.inl 3)), some (.inl l_), some (.inl i), some (.inl v2)], [], n, D, s, p, c) _
        refine tt_k 2 (S' := (10, [some (.inr (.inl 0)), some (.inr (.inl 3)), some (.inl l_), some (.inl (i + 1)), some (.inl v2)], [], n, D, s, p, c)) rfl ?_
        exact ih (i + 1) (some (.inl v2)) (by omega) (fun j h1 h2 => if e : j = i then (by rw [e]; omega) else (by exact i0 j h1 (by omega))) (show (5 - (i + 1)).toNat < m by omega)
      · show tt Zi d 111 (25, [some (.inr (.inl 0)), some (.inr (.inl 3)), some (.inl l_), some (.inl i), some (.inl v2)], [], n, D, s, p, c) _
        refine tt_k 1 (S' := (26, [some (.inr (.inl 0)), some (.inr (.inl 3)), some (.inl l_), some (.inl i), some (.inl v2)], [.inl 1], n, D, s, p, c)) rfl ?_
        exact tt_rtb rfl rfl (by omega) (hR (fun hz => z5_no hz (i := i) (by omega) (by omega)))
set_option maxRecDepth 100000 in
set_option maxHeartbeats 4000000 in
theorem e_hasChosen {g : Nat → Int} {Zi : Nat → Option (Nat × (Nat → Int))} {d n q : Nat} {D : Nat → Nat × Nat} {s : Nat → Int} {p : Nat → Nat} {c : Nat → Nat → Int} (hd : 0 ≤ d) (hz : zk Zi) (hq : q + 0 ≤ 400000) (hD : wd n p) (hS : bS s) (hC : bC D c) (hW : wp q g n D p s)  : tt Zi d 111 (0, [some (.inr (.inl 0)), none, none, none, none], [], n, D, s, p, c) (fun R H => ∃ (r : Int), R = .inl (some (.inl r)) ∧ H = (n, D, s, p, c) ∧ (0 ≤ r ∧ r ≤ 1) ∧ ((r = 0 ∧ (c 3 0 = 0 ∧ c 3 1 = 0 ∧ c 3 2 = 0 ∧ c 3 3 = 0 ∧ c 3 4 = 0)) ∨ (r = 1 ∧ ¬ (c 3 0 = 0 ∧ c 3 1 = 0 ∧ c 3 2 = 0 ∧ c 3 3 = 0 ∧ c 3 4 = 0)))) := by
  refine tt_k 8 (S' := (10, [some (.inr (.inl 0)), some (.inr (.inl 3)), some (.inl 5), some (.inl 0), none], [], n, D, s, p, c)) rfl ?_
  refine e_hasChosen_L10 (Zi := Zi) (q := q) (n := n) (D := D) (s := s) (p := p) (c := c) hd hz (by omega) hD hS hC hW  5 (by omega)  (fun h => ⟨1, rfl, rfl, by omega, Or.inr ⟨rfl, h⟩⟩) ?_ _ 0 (none) (by omega) (fun j h1 h2 => absurd h2 (by omega)) (Nat.lt_succ_self _)
  intro x1 x2 b3 i4 hx5
  show tt Zi d 111 (33, [some (.inr (.inl 0)), some (.inr (.inl 3)), some (.inl 5), some (.inl x1), x2], [], n, D, s, p, c) _
  replace i4 : ∀ j : Int, 0 ≤ j → j < x1 → (c 3) j.toNat = 0 := i4
  replace hx5 : 5 ≤ x1 := hx5
  refine tt_k 1 (S' := (34, [some (.inr (.inl 0)), some (.inr (.inl 3)), some (.inl 5), some (.inl x1), x2], [.inl 0], n, D, s, p, c)) rfl ?_
  exact tt_rtb rfl rfl (by omega) ⟨0, rfl, rfl, by omega, Or.inl ⟨rfl, z5_of (fun j h1 h2 => i4 j h1 (by omega))⟩⟩
