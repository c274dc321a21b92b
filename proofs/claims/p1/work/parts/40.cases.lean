/-! each case of the law from its leaves -/
theorem mm_asn {x : Int32} {k : Nat} (hk : k < 2147483648) (l : 0 ≤ x.toInt) (u : x.toInt ≤ k) : ∃ n, n ≤ k ∧ x = Int32.ofNat n := by
  refine ⟨x.toInt.toNat, by omega, ?_⟩
  apply Int32.toInt_inj.mp
  rw [mm_nat (by omega)]
  omega
theorem mm_bdA0 : ∀ a, a < 8 → ∀ b, b < 8 → (0 ≤ ((((Int32.ofNat 0 * 8) + Int32.ofNat a) * 8) + Int32.ofNat b).toInt ∧ ((((Int32.ofNat 0 * 8) + Int32.ofNat a) * 8) + Int32.ofNat b).toInt < 64) ∧ 0 ≤ (((4096 * Int32.ofNat 0) + (64 * Int32.ofNat a)) + Int32.ofNat b).toInt ∧ (((4096 * Int32.ofNat 0) + (64 * Int32.ofNat a)) + Int32.ofNat b).toInt < 12288 := by decide +kernel
theorem mm_bdA {x y z : Int32} (l1 : 0 ≤ x.toInt) (u1 : x.toInt ≤ 0) (l2 : 0 ≤ y.toInt) (u2 : y.toInt ≤ 7) (l3 : 0 ≤ z.toInt) (u3 : z.toInt ≤ 7) : mm_bd ((((x * 8) + z) * 8) + y) 64 ∧ mm_bd (((4096 * x) + (64 * z)) + y) 12288 := by
  obtain ⟨a, ha, rfl⟩ := mm_asn (k := 0) (by decide) l1 (by omega)
  obtain ⟨b, hb, rfl⟩ := mm_asn (k := 7) (by decide) l2 (by omega)
  obtain ⟨c, hc, rfl⟩ := mm_asn (k := 7) (by decide) l3 (by omega)
  have h0 : a = 0 := by omega
  subst h0
  exact mm_bdA0 c (by omega) b (by omega)
theorem mm_bdB0 : ∀ a, a < 367 → ∀ b, b < 4 → 0 ≤ ((4 * Int32.ofNat a) + Int32.ofNat b).toInt ∧ ((4 * Int32.ofNat a) + Int32.ofNat b).toInt < 1468 := by decide +kernel
theorem mm_bdB {x y : Int32} (l1 : 0 ≤ x.toInt) (u1 : x.toInt ≤ 366) (l2 : 0 ≤ y.toInt) (u2 : y.toInt ≤ 3) : mm_bd ((4 * x) + y) 1468 := by
  obtain ⟨a, ha, rfl⟩ := mm_asn (k := 366) (by decide) l1 (by omega)
  obtain ⟨b, hb, rfl⟩ := mm_asn (k := 3) (by decide) l2 (by omega)
  exact mm_bdB0 a (by omega) b (by omega)
theorem mm_cs0 (xs : Nat → Int32) : mm_Ok xs 120 := by
  by_cases hb1 : (xs 1).toInt ≤ 0
  · skip
    exact mm_lf0_14 xs (by omega)
  · skip
    by_cases hb2 : (xs 1).toInt ≤ 64
    · skip
      by_cases hb3 : (xs 2).toInt ≤ 0
      · skip
        exact mm_lf0_13 xs (by omega) (by omega) (by omega)
      · skip
        by_cases hb4 : (xs 2).toInt ≤ 64
        · skip
          by_cases hb5 : (xs 3).toInt ≤ 0
          · skip
            exact mm_lf0_12 xs (by omega) (by omega) (by omega) (by omega) (by omega)
          · skip
            by_cases hb6 : (xs 3).toInt ≤ 1
            · skip
              by_cases hb7 : (xs 4).toInt ≤ 1
              · skip
                exact mm_lf0_11 xs (by omega) (by omega) (by omega) (by omega) (by omega) (by omega) (by omega)
              · skip
                by_cases hb8 : (xs 4).toInt ≤ 16
                · skip
                  cases hq9 : mm_cmp .ge 64 ((xs 1 * xs 2) * xs 3) with
                  | true =>
                    exact mm_lf0_10 xs (by omega) (by omega) (by omega) (by omega) (by omega) (by omega) (by omega) (by omega) hq9
                  | false =>
                    exact mm_lf0_9 xs (by omega) (by omega) (by omega) (by omega) (by omega) (by omega) (by omega) (by omega) hq9
                · skip
                  exact mm_lf0_8 xs (by omega) (by omega) (by omega) (by omega) (by omega) (by omega) (by omega)
            · skip
              by_cases hb10 : (xs 3).toInt ≤ 2
              · skip
                exact mm_lf0_7 xs (by omega) (by omega) (by omega) (by omega) (by omega) (by omega)
              · skip
                by_cases hb11 : (xs 3).toInt ≤ 3
                · skip
                  by_cases hb12 : (xs 4).toInt ≤ 1
                  · skip
                    exact mm_lf0_6 xs (by omega) (by omega) (by omega) (by omega) (by omega) (by omega) (by omega)
                  · skip
                    by_cases hb13 : (xs 4).toInt ≤ 16
                    · skip
                      cases hq14 : mm_cmp .ge 64 ((xs 1 * xs 2) * xs 3) with
                      | true =>
                        exact mm_lf0_5 xs (by omega) (by omega) (by omega) (by omega) (by omega) (by omega) (by omega) (by omega) hq14
                      | false =>
                        exact mm_lf0_4 xs (by omega) (by omega) (by omega) (by omega) (by omega) (by omega) (by omega) (by omega) hq14
                    · skip
                      exact mm_lf0_3 xs (by omega) (by omega) (by omega) (by omega) (by omega) (by omega) (by omega)
                · skip
                  exact mm_lf0_2 xs (by omega) (by omega) (by omega) (by omega) (by omega)
        · skip
          exact mm_lf0_1 xs (by omega) (by omega) (by omega)
    · skip
      exact mm_lf0_0 xs (by omega)
theorem mm_cs1 (xs : Nat → Int32) : mm_Ok xs 192 := by
  by_cases hb15 : (xs 1).toInt ≤ -1
  · skip
    exact mm_lf1_26 xs (by omega)
  · skip
    by_cases hb16 : (xs 1).toInt ≤ 0
    · skip
      by_cases hb17 : (xs 2).toInt ≤ -1
      · skip
        by_cases hb18 : (xs 4).toInt ≤ 0
        · skip
          exact mm_lf1_25 xs (by omega) (by omega) (by omega) (by omega)
        · skip
          by_cases hb19 : (xs 5).toInt ≤ 0
          · skip
            exact mm_lf1_24 xs (by omega) (by omega) (by omega) (by omega) (by omega)
          · skip
            exact mm_lf1_23 xs (by omega) (by omega) (by omega) (by omega) (by omega)
      · skip
        by_cases hb20 : (xs 2).toInt ≤ 7
        · skip
          by_cases hb21 : (xs 3).toInt ≤ -1
          · skip
            by_cases hb22 : (xs 4).toInt ≤ 0
            · skip
              exact mm_lf1_22 xs (by omega) (by omega) (by omega) (by omega) (by omega) (by omega)
            · skip
              by_cases hb23 : (xs 5).toInt ≤ 0
              · skip
                exact mm_lf1_21 xs (by omega) (by omega) (by omega) (by omega) (by omega) (by omega) (by omega)
              · skip
                exact mm_lf1_20 xs (by omega) (by omega) (by omega) (by omega) (by omega) (by omega) (by omega)
          · skip
            by_cases hb24 : (xs 3).toInt ≤ 7
            · skip
              by_cases hb25 : (xs 4).toInt ≤ 0
              · skip
                exact mm_lf1_19 xs (by omega) (by omega) (by omega) (by omega) (by omega) (by omega) (by omega)
              · skip
                by_cases hb26 : (xs 5).toInt ≤ 0
                · skip
                  cases hq27 : mm_cmp .gt (xs 4) (8 - xs 2) with
                  | true =>
                    exact mm_lf1_18 xs (by omega) (by omega) (by omega) (by omega) (by omega) (by omega) (by omega) (by omega) hq27
                  | false =>
                    exact mm_lf1_16 xs (by omega) (by omega) (by omega) (by omega) (by omega) (by omega) (by omega) (by omega) hq27
                · skip
                  cases hq28 : mm_cmp .gt (xs 4) (8 - xs 2) with
                  | true =>
                    exact mm_lf1_17 xs (by omega) (by omega) (by omega) (by omega) (by omega) (by omega) (by omega) (by omega) hq28
                  | false =>
                    cases hq29 : mm_cmp .gt (xs 5) (8 - xs 3) with
                    | true =>
                      exact mm_lf1_15 xs (by omega) (by omega) (by omega) (by omega) (by omega) (by omega) (by omega) (by omega) hq28 hq29
                    | false =>
                      by_cases hb30 : (xs 6).toInt ≤ -1
                      · skip
                        exact mm_lf1_14 xs (by omega) (by omega) (by omega) (by omega) (by omega) (by omega) (by omega) (by omega) (by omega) hq28 hq29
                      · skip
                        by_cases hb31 : (xs 6).toInt ≤ 255
                        · skip
                          by_cases hb32 : (xs 7).toInt ≤ -1
                          · skip
                            exact mm_lf1_13 xs (by omega) (by omega) (by omega) (by omega) (by omega) (by omega) (by omega) (by omega) (by omega) (by omega) (by omega) hq28 hq29
                          · skip
                            by_cases hb33 : (xs 7).toInt ≤ 255
                            · skip
                              by_cases hb34 : (xs 8).toInt ≤ -1
                              · skip
                                exact mm_lf1_12 xs (by omega) (by omega) (by omega) (by omega) (by omega) (by omega) (by omega) (by omega) (by omega) (by omega) (by omega) (by omega) (by omega) hq28 hq29
                              · skip
                                by_cases hb35 : (xs 8).toInt ≤ 65535
                                · skip
                                  exact mm_lf1_11 xs (by omega) (by omega) (by omega) (by omega) (by omega) (by omega) (by omega) (by omega) (by omega) (by omega) (by omega) (by omega) (by omega) (by omega) hq28 hq29
                                · skip
                                  exact mm_lf1_10 xs (by omega) (by omega) (by omega) (by omega) (by omega) (by omega) (by omega) (by omega) (by omega) (by omega) (by omega) (by omega) (by omega) hq28 hq29
                            · skip
                              exact mm_lf1_9 xs (by omega) (by omega) (by omega) (by omega) (by omega) (by omega) (by omega) (by omega) (by omega) (by omega) (by omega) hq28 hq29
                        · skip
                          exact mm_lf1_8 xs (by omega) (by omega) (by omega) (by omega) (by omega) (by omega) (by omega) (by omega) (by omega) hq28 hq29
            · skip
              by_cases hb36 : (xs 4).toInt ≤ 0
              · skip
                exact mm_lf1_7 xs (by omega) (by omega) (by omega) (by omega) (by omega) (by omega)
              · skip
                by_cases hb37 : (xs 5).toInt ≤ 0
                · skip
                  exact mm_lf1_6 xs (by omega) (by omega) (by omega) (by omega) (by omega) (by omega) (by omega)
                · skip
                  exact mm_lf1_5 xs (by omega) (by omega) (by omega) (by omega) (by omega) (by omega) (by omega)
        · skip
          by_cases hb38 : (xs 4).toInt ≤ 0
          · skip
            exact mm_lf1_4 xs (by omega) (by omega) (by omega) (by omega)
          · skip
            by_cases hb39 : (xs 5).toInt ≤ 0
            · skip
              exact mm_lf1_3 xs (by omega) (by omega) (by omega) (by omega) (by omega)
            · skip
              by_cases hb40 : (xs 3).toInt ≤ -1
              · skip
                exact mm_lf1_2 xs (by omega) (by omega) (by omega) (by omega) (by omega) (by omega)
              · skip
                exact mm_lf1_1 xs (by omega) (by omega) (by omega) (by omega) (by omega) (by omega)
    · skip
      exact mm_lf1_0 xs (by omega)
theorem mm_cs2 (xs : Nat → Int32) : mm_Ok xs 318 := by
  by_cases hb41 : (xs 1).toInt ≤ -1
  · skip
    exact mm_lf2_6 xs (by omega)
  · skip
    by_cases hb42 : (xs 1).toInt ≤ 0
    · skip
      by_cases hb43 : (xs 2).toInt ≤ -1
      · skip
        exact mm_lf2_5 xs (by omega) (by omega) (by omega)
      · skip
        by_cases hb44 : (xs 2).toInt ≤ 7
        · skip
          by_cases hb45 : (xs 3).toInt ≤ -1
          · skip
            exact mm_lf2_4 xs (by omega) (by omega) (by omega) (by omega) (by omega)
          · skip
            by_cases hb46 : (xs 3).toInt ≤ 7
            · skip
              exact mm_lf2_3 xs (by omega) (by omega) (by omega) (by omega) (by omega) (by omega) (mm_bdA (by omega) (by omega) (by omega) (by omega) (by omega) (by omega)).1 (mm_bdA (by omega) (by omega) (by omega) (by omega) (by omega) (by omega)).2
            · skip
              exact mm_lf2_2 xs (by omega) (by omega) (by omega) (by omega) (by omega)
        · skip
          exact mm_lf2_1 xs (by omega) (by omega) (by omega)
    · skip
      exact mm_lf2_0 xs (by omega)
theorem mm_cs3 (xs : Nat → Int32) : mm_Ok xs 398 := by
  by_cases hb47 : (xs 1).toInt ≤ -1
  · skip
    exact mm_lf3_11 xs (by omega)
  · skip
    by_cases hb48 : (xs 1).toInt ≤ 65535
    · skip
      by_cases hb49 : (xs 2).toInt ≤ -1
      · skip
        exact mm_lf3_10 xs (by omega) (by omega) (by omega)
      · skip
        by_cases hb50 : (xs 2).toInt ≤ 65535
        · skip
          by_cases hb51 : (xs 3).toInt ≤ -1
          · skip
            exact mm_lf3_9 xs (by omega) (by omega) (by omega) (by omega) (by omega)
          · skip
            by_cases hb52 : (xs 3).toInt ≤ 65535
            · skip
              by_cases hb53 : (xs 4).toInt ≤ -1
              · skip
                exact mm_lf3_8 xs (by omega) (by omega) (by omega) (by omega) (by omega) (by omega) (by omega)
              · skip
                by_cases hb54 : (xs 4).toInt ≤ 65535
                · skip
                  by_cases hb55 : (xs 5).toInt ≤ -1
                  · skip
                    exact mm_lf3_7 xs (by omega) (by omega) (by omega) (by omega) (by omega) (by omega) (by omega) (by omega) (by omega)
                  · skip
                    by_cases hb56 : (xs 5).toInt ≤ 65535
                    · skip
                      by_cases hb57 : (xs 1).toInt ≤ 255
                      · skip
                        exact mm_lf3_6 xs (by omega) (by omega) (by omega) (by omega) (by omega) (by omega) (by omega) (by omega) (by omega) (by omega)
                      · skip
                        exact mm_lf3_5 xs (by omega) (by omega) (by omega) (by omega) (by omega) (by omega) (by omega) (by omega) (by omega) (by omega)
                    · skip
                      exact mm_lf3_4 xs (by omega) (by omega) (by omega) (by omega) (by omega) (by omega) (by omega) (by omega) (by omega)
                · skip
                  exact mm_lf3_3 xs (by omega) (by omega) (by omega) (by omega) (by omega) (by omega) (by omega)
            · skip
              exact mm_lf3_2 xs (by omega) (by omega) (by omega) (by omega) (by omega)
        · skip
          exact mm_lf3_1 xs (by omega) (by omega) (by omega)
    · skip
      exact mm_lf3_0 xs (by omega)
theorem mm_cs4 (xs : Nat → Int32) : mm_Ok xs 482 := by
  by_cases h1 : (xs 1).toInt ≤ -1
  · exact mm_lf4_A0 xs h1
  · by_cases h2 : (xs 1).toInt ≤ 127
    · exact mm_lf4_v xs (by omega) h2
    · by_cases h3 : (xs 1).toInt ≤ 255
      · exact mm_lf4_B0 xs (by omega) h3
      · exact mm_lf4_C0 xs (by omega)
theorem mm_cs5 (xs : Nat → Int32) : mm_Ok xs 538 := by
  exact mm_lf5_0 xs 
theorem mm_cs6 (xs : Nat → Int32) : mm_Ok xs 551 := by
  by_cases hb58 : (xs 1).toInt ≤ -1
  · skip
    exact mm_lf6_1 xs (by omega)
  · skip
    exact mm_lf6_0 xs (by omega)
theorem mm_cs7 (xs : Nat → Int32) : mm_Ok xs 607 := by
  exact mm_lf7_0 xs 
theorem mm_cs8 (xs : Nat → Int32) : mm_Ok xs 711 := by
  by_cases hb59 : (xs 1).toInt ≤ -1
  · skip
    exact mm_lf8_2 xs (by omega)
  · skip
    by_cases hb60 : (xs 1).toInt ≤ 0
    · skip
      exact mm_lf8_1 xs (by omega) (by omega)
    · skip
      exact mm_lf8_0 xs (by omega)
theorem mm_cs9 (xs : Nat → Int32) : mm_Ok xs 747 := by
  by_cases hb61 : (xs 1).toInt ≤ -1
  · skip
    exact mm_lf9_1 xs (by omega)
  · skip
    exact mm_lf9_0 xs (by omega)
theorem mm_cs10 (xs : Nat → Int32) : mm_Ok xs 815 := by
  exact mm_lf10_0 xs 
theorem mm_cs11 (xs : Nat → Int32) : mm_Ok xs 859 := by
  exact mm_lf11_0 xs 
theorem mm_cs12 (xs : Nat → Int32) : mm_Ok xs 872 := by
  exact mm_lf12_0 xs 
theorem mm_cs13 (xs : Nat → Int32) : mm_Ok xs 885 := by
  by_cases hb62 : (xs 1).toInt ≤ -1
  · skip
    exact mm_lf13_2 xs (by omega)
  · skip
    by_cases hb63 : (xs 1).toInt ≤ 3
    · skip
      exact mm_lf13_1 xs (by omega) (by omega)
    · skip
      exact mm_lf13_0 xs (by omega)
theorem mm_cs14 (xs : Nat → Int32) : mm_Ok xs 941 := by
  exact mm_lf14_0 xs 
theorem mm_cs15 (xs : Nat → Int32) : mm_Ok xs 1021 := by
  by_cases hb64 : (xs 1).toInt ≤ -1
  · skip
    exact mm_lf15_7 xs (by omega)
  · skip
    by_cases hb65 : (xs 1).toInt ≤ 366
    · skip
      by_cases hb66 : (xs 2).toInt ≤ -1
      · skip
        exact mm_lf15_6 xs (by omega) (by omega) (by omega)
      · skip
        by_cases hb67 : (xs 2).toInt ≤ 0
        · skip
          exact mm_lf15_5 xs (by omega) (by omega) (by omega) (by omega) (mm_bdB (by omega) (by omega) (by omega) (by omega)) ⟨by omega, by omega⟩
        · skip
          by_cases hb68 : (xs 2).toInt ≤ 1
          · skip
            exact mm_lf15_4 xs (by omega) (by omega) (by omega) (by omega) (mm_bdB (by omega) (by omega) (by omega) (by omega)) ⟨by omega, by omega⟩
          · skip
            by_cases hb69 : (xs 2).toInt ≤ 2
            · skip
              exact mm_lf15_3 xs (by omega) (by omega) (by omega) (by omega) (mm_bdB (by omega) (by omega) (by omega) (by omega)) ⟨by omega, by omega⟩
            · skip
              by_cases hb70 : (xs 2).toInt ≤ 3
              · skip
                exact mm_lf15_2 xs (by omega) (by omega) (by omega) (by omega) (mm_bdB (by omega) (by omega) (by omega) (by omega)) ⟨by omega, by omega⟩
              · skip
                exact mm_lf15_1 xs (by omega) (by omega) (by omega)
    · skip
      exact mm_lf15_0 xs (by omega)
