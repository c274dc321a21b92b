/-! numbers that wrap round; the measures of a scan -/
theorem tt_wm {Zi : Nat → Option (Nat × (Nat → Int))} {d M pc : Nat} {ls : List (Option mi_V)} {st : List mi_V} {Q : mi_Rs → mi_H → Prop} {x : Int} {H : mi_H} (g : ∀ y, (-2147483648 ≤ y ∧ y ≤ 2147483647) → (x - y) % 4294967296 = 0 → tt Zi d M (pc, ls, .inl y :: st, H) Q) : tt Zi d M (pc, ls, .inl x :: st, H) Q := by
  refine tt_wr (y := (Int32.ofInt x).toInt) (Int32.ofInt_toInt _).symm (g _ (mi_rg _) ?_)
  have h1 := mi_bv (Int32.ofInt x)
  rw [mi_oi x] at h1
  omega
theorem td_abs {x y b : Int} (hy : y ≠ 0) (h1 : 0 < y → x < b * y ∧ -x < b * y) (h2 : y < 0 → x < b * -y ∧ -x < b * -y) : -b < x.tdiv y ∧ x.tdiv y < b := by
  have e : (x.tdiv y).natAbs = x.natAbs / y.natAbs := Int.natAbs_tdiv x y
  have hb : 0 < y.natAbs := Int.natAbs_pos.mpr hy
  have hlt : x.natAbs < b.toNat * y.natAbs := by
    rcases Int.lt_or_gt_of_ne hy with h | h
    · obtain ⟨h3, h4⟩ := h2 h
      have hbp : 0 < b := by
        apply Int.not_le.mp
        intro hq
        have h5 : b * -y ≤ 0 := Int.mul_nonpos_of_nonpos_of_nonneg hq (by omega)
        omega
      have e1 : ((b.toNat * y.natAbs : Nat) : Int) = b * -y := by
        rw [Int.natCast_mul, Int.toNat_of_nonneg (by omega), Int.ofNat_natAbs_of_nonpos (by omega)]
      omega
    · obtain ⟨h3, h4⟩ := h1 h
      have hbp : 0 < b := by
        apply Int.not_le.mp
        intro hq
        have h5 : b * y ≤ 0 := Int.mul_nonpos_of_nonpos_of_nonneg hq (by omega)
        omega
      have e1 : ((b.toNat * y.natAbs : Nat) : Int) = b * y := by
        rw [Int.natCast_mul, Int.toNat_of_nonneg (by omega), Int.natAbs_of_nonneg (by omega)]
      omega
  have h3 : x.natAbs / y.natAbs < b.toNat := Nat.div_lt_of_lt_mul (by rw [Nat.mul_comm]; exact hlt)
  rw [← e] at h3
  omega
theorem rng_bd {most X Y : Int} (hm : 0 ≤ most ∧ most ≤ 65535) (hX : -2147483648 ≤ X ∧ X ≤ 2147483647) (hY : -2147483648 ≤ Y ∧ Y ≤ 2147483647) (hne : Y % 2 = 1) (hc : (most + Y - 1 - X) % 4294967296 = 0) : -65537 < X.tdiv Y ∧ X.tdiv Y < 65537 := by
  refine td_abs (by omega) (fun h => ?_) (fun h => ?_) <;> omega
theorem pw_le {a b : Int} (ha : 0 ≤ a) (h : a ≤ b) : (2 : Int) ^ a.toNat ≤ 2 ^ b.toNat := mi_pw (by omega)
theorem pw_17 {q : Int} (h0 : 0 ≤ q) (h : (2 : Int) ^ q.toNat < 65538) : q ≤ 16 := by
  apply Int.not_lt.mp
  intro hq
  have h1 := pw_le (a := 17) (b := q) (by decide) (by omega)
  have e : (2 : Int) ^ (17 : Int).toNat = 131072 := by decide
  omega
theorem pw_lt {a b x : Int} (ha : 0 ≤ a) (hb : 0 ≤ b) (h1 : (2 : Int) ^ a.toNat < x) (h2 : x ≤ 2 ^ b.toNat) : a < b := by
  apply Int.not_le.mp
  intro hq
  have := pw_le hb hq
  omega
theorem mv_mk {most near t1 t2 t3 halving step range q longest b : Int} (hm : most ≤ 65535) (hn : 0 ≤ near ∧ near ≤ 255) (hn2 : near ≤ most / 2) (hs : step = 2 * near + 1) (hr : range = (most + 2 * near).tdiv step + 1) (ht : near < t1 ∧ t1 ≤ t2 ∧ t2 ≤ t3 ∧ t3 ≤ most) (hh : 3 ≤ halving ∧ halving ≤ 65535)
    (hq : 0 ≤ q) (hq1 : range ≤ 2 ^ q.toNat) (hq2 : q = 0 ∨ 2 ^ (q - 1).toNat < range) (hb : 2 ≤ b ∧ b ≤ 16) (hb1 : most < 2 ^ b.toNat) (hl : longest = 2 * (b + max 8 b)) : mvP most near t1 t2 t3 halving step range q longest := by
  have e1 : (most + 2 * near).tdiv step = (most + 2 * near) / step := Int.tdiv_eq_ediv_of_nonneg (by omega)
  rw [e1] at hr
  have hs0 : 0 < step := by omega
  have hd1 : 1 ≤ (most + 2 * near) / step := dv_ge1 hs0 (by omega)
  have hd2 : (most + 2 * near) / step * step ≤ most + 2 * near := Int.ediv_mul_le _ (by omega)
  have hd3 : most + 2 * near < ((most + 2 * near) / step + 1) * step := Int.lt_ediv_add_one_mul_self _ hs0
  have hd4 : ((most + 2 * near) / step + 1) * step = (most + 2 * near) / step * step + step := by rw [Int.add_mul, Int.one_mul]
  have hd5 : (most + 2 * near) / step ≤ most := by
    have h1 : (most + 2 * near) / step < most + 1 := by
      apply Int.ediv_lt_of_lt_mul hs0
      have h2 : (most + 1) * (2 * near + 1) = (most + 1) * (2 * near) + (most + 1) := by rw [Int.mul_add, Int.mul_one]
      have h3 : 1 * (2 * near) ≤ (most + 1) * (2 * near) := Int.mul_le_mul_of_nonneg_right (by omega) (by omega)
      rw [hs, h2]
      omega
    omega
  have hq0 : q ≠ 0 := by
    intro h
    subst h
    have : (2 : Int) ^ (0 : Int).toNat = 1 := by decide
    omega
  have hq3 : 2 ^ (q - 1).toNat < range := by omega
  have hqb := pw_lt (a := q - 1) (b := b) (x := range) (by omega) (by omega) hq3 (by omega)
  refine ⟨⟨hn.1, hn.2, by omega, hm⟩, hs, hr, ⟨by omega, by omega⟩, ?_, ht, hh, ⟨by omega, by omega, hq1, hq3⟩, ⟨by omega, by omega, by omega, by omega⟩⟩
  rw [hr]
  omega
