/-! the class's rows of bytes, its pictures' shapes -/
theorem us_us {s : Nat → Int} {k : Nat} {v w : Int} : us (us s k v) k w = us s k w := by
  funext j
  by_cases h : j = k
  · subst h; rw [us_eq, us_eq]
  · rw [us_ne h, us_ne h, us_ne h]
theorem us_cm {s : Nat → Int} {k j : Nat} {v w : Int} (h : k ≠ j) : us (us s k v) j w = us (us s j w) k v := by
  funext i
  by_cases h1 : i = j
  · subst h1; rw [us_eq, us_ne (fun e => h e.symm), us_eq]
  · by_cases h2 : i = k
    · subst h2; rw [us_ne h1, us_eq, us_eq]
    · rw [us_ne h1, us_ne h2, us_ne h2, us_ne h1]
theorem us_bs {s : Nat → Int} {k : Nat} {v : Int} (h : k ≠ 1602) (hb : bS (us (us s 1602 1) k v)) : bS (us (us s k v) 1602 1) := by
  rw [us_cm h]
  exact hb
theorem bS_uu {s : Nat → Int} {v : Int} (h : bS (us s 1602 1)) (hv : 1 ≤ v ∧ v ≤ 8) : bS (us s 1602 v) := by
  have h1 : bS (us (us s 1602 1) 1602 v) := bS_us h hv
  rw [us_us] at h1
  exact h1
theorem ln_nw {n k m : Nat} {D : Nat → Nat × Nat} : ln (ud D (48 + n) (k, m)) (48 + n) = m := by
  unfold ln mi_dsc
  rw [Nat.ble_eq_true_of_le (Nat.le_add_right 48 n), ud_eq]
  rfl
theorem arr_nw {n k m : Nat} {D : Nat → Nat × Nat} (hn : 48 + n < 1000000) : mi_arr (n + 1) (ud D (48 + n) (k, m)) (48 + n) = some (k, m) := by
  unfold mi_arr
  rw [Nat.ble_eq_true_of_le (Nat.le_add_right 48 n)]
  simp only [cond]
  rw [if_pos ⟨hn, by omega⟩, ud_eq]
theorem lo_nw0 {n m : Nat} {D : Nat → Nat × Nat} : bC_lo (ud D (48 + n) (0, m)) (48 + n) = 0 ∧ bC_hi (ud D (48 + n) (0, m)) (48 + n) = 65535 := by
  unfold bC_lo bC_hi
  rw [Nat.ble_eq_true_of_le (Nat.le_add_right 48 n), ud_eq]
  exact ⟨rfl, rfl⟩
theorem lo_nw1 {n m : Nat} {D : Nat → Nat × Nat} : bC_lo (ud D (48 + n) (1, m)) (48 + n) = -128 ∧ bC_hi (ud D (48 + n) (1, m)) (48 + n) = 127 := by
  unfold bC_lo bC_hi
  rw [Nat.ble_eq_true_of_le (Nat.le_add_right 48 n), ud_eq]
  exact ⟨rfl, rfl⟩
def wo (s : Nat → Int) : Prop := w_ok (s 1601) (s 1602)
theorem wo_us {s : Nat → Int} {k : Nat} {v : Int} (hk : k ∉ [1601, 1602]) (h : wo s) : wo (us s k v) := by
  unfold wo at h ⊢
  rw [us_ne (fun e => hk (by rw [← e]; decide)), us_ne (fun e => hk (by rw [← e]; decide))]
  exact h
theorem wo_fr {s s1 : Nat → Int} {L : List Nat} (f : fr s s1 L) (hd : ∀ k ∈ [1601, 1602], k ∉ L) (h : wo s) : wo s1 := by
  unfold wo at h ⊢
  rw [f 1601 (hd _ (by decide)), f 1602 (hd _ (by decide))]
  exact h
theorem mi_shr_m2 {x k : Int} (hx : -2 ≤ x ∧ x ≤ 2147483647) (hk : 0 ≤ k ∧ k ≤ 31) : -2 ≤ mi_shr x k := by
  rw [mi_shr_div (by omega) hk.1 hk.2]
  have hp : (0 : Int) < 2 ^ k.toNat := Int.pow_pos (by decide)
  apply Int.le_ediv_of_mul_le hp
  omega
theorem wp_w12 {g : Nat → Int} {q n : Nat} {D : Nat → Nat × Nat} {p : Nat → Nat} {s : Nat → Int} {a b : Int} (h : wp q g n D p s) (hw : b = 0 ∨ w_ok a b) : wp q g n D p (us (us s 1601 a) 1602 b) := ⟨h.nb, h.dz, h.r4, h.r6, h.c4, h.c6, h.p1, h.p25, h.p27, h.w1, h.w25, h.w27, h.m9, h.a12, h.a21, h.pp, h.s12, h.s21, hw, fun k hk => us_ng (by decide) hk (us_ng (by decide) hk (h.gz k hk))⟩
theorem wp_w21 {g : Nat → Int} {q n : Nat} {D : Nat → Nat × Nat} {p : Nat → Nat} {s : Nat → Int} {a b : Int} (h : wp q g n D p s) (hw : b = 0 ∨ w_ok a b) : wp q g n D p (us (us s 1602 b) 1601 a) := ⟨h.nb, h.dz, h.r4, h.r6, h.c4, h.c6, h.p1, h.p25, h.p27, h.w1, h.w25, h.w27, h.m9, h.a12, h.a21, h.pp, h.s12, h.s21, hw, fun k hk => us_ng (by decide) hk (us_ng (by decide) hk (h.gz k hk))⟩
theorem wp_g4 {g : Nat → Int} {q n m : Nat} {D : Nat → Nat × Nat} {p : Nat → Nat} {s : Nat → Int} (h : wp q g n D p s) (hm : m = 2 * ln D (p 400)) (hl : ln D (p 400) ≤ 262143) (hn : 48 + n < 1000000) : wp q g (n + 1) (ud D (48 + n) (1, m)) (up p 400 (48 + n)) s := by
  have e : ext n D (n + 1) (ud D (48 + n) (1, m)) := ext_1
  have l6 : ln (ud D (48 + n) (1, m)) (p 600) = ln D (p 600) := ext_ln e (arr_lt h.r6.1)
  have l1 : ln (ud D (48 + n) (1, m)) (p 104) = ln D (p 104) := ext_ln e (arr_lt h.p1.1)
  have l25 : ln (ud D (48 + n) (1, m)) (p 2504) = ln D (p 2504) := ext_ln e (arr_lt h.p25.1)
  have l27 : ln (ud D (48 + n) (1, m)) (p 2704) = ln D (p 2704) := ext_ln e (arr_lt h.p27.1)
  have lw : ln (ud D (48 + n) (1, m)) (48 + n) = m := ln_nw
  have hnb : ∃ k4 k6 : Nat, ln (ud D (48 + n) (1, m)) (48 + n) = 64 * 2 ^ k4 ∧ ln (ud D (48 + n) (1, m)) (p 600) = 64 * 2 ^ k6 ∧ k4 ≤ 12 ∧ k6 ≤ 12 ∧ n + 1 ≤ q + k4 + k6 + jc (ln (ud D (48 + n) (1, m)) (p 104)) + jc (ln (ud D (48 + n) (1, m)) (p 2504)) + jc (ln (ud D (48 + n) (1, m)) (p 2704)) ∧ tot (n + 1) (ud D (48 + n) (1, m)) ≤ 128 * 2 ^ k4 + 128 * 2 ^ k6 + pq (ln (ud D (48 + n) (1, m)) (p 104)) + pq (ln (ud D (48 + n) (1, m)) (p 2504)) + pq (ln (ud D (48 + n) (1, m)) (p 2704)) := by
    obtain ⟨k4, k6, e4, e6, b4, b6, hn2, ht⟩ := h.nb
    have hk : k4 ≤ 11 := by
      apply Nat.le_of_not_lt
      intro hq
      have h1 : 2 ^ 12 ≤ 2 ^ k4 := Nat.pow_le_pow_right (by decide) hq
      have e12 : 2 ^ 12 = 4096 := by decide
      omega
    have hs : 2 ^ (k4 + 1) = 2 ^ k4 * 2 := Nat.pow_succ _ _
    refine ⟨k4 + 1, k6, by rw [lw]; omega, by rw [l6]; exact e6, by omega, by omega, by rw [l1, l25, l27]; omega, ?_⟩
    rw [tot_1, l1, l25, l27]
    show tot n D + m ≤ _
    omega
  exact ⟨hnb, dz_1 h.dz, ⟨(by show mi_arr _ _ (48 + n) = some (1, ln _ (48 + n)); rw [lw]; exact arr_nw hn), lo_nw1.1, lo_nw1.2⟩, ext_byt e h.r6, (by show s 401 ≤ ((ln (ud D (48 + n) (1, m)) (48 + n) : Nat) : Int); rw [lw]; have := h.c4; omega), (by show s 601 ≤ ((ln (ud D (48 + n) (1, m)) (p 600) : Nat) : Int); rw [l6]; exact h.c6), ext_smp e h.p1, ext_smp e h.p25, ext_smp e h.p27, (by show s 100 * s 101 * s 102 ≤ ((ln (ud D (48 + n) (1, m)) (p 104) : Nat) : Int); rw [l1]; exact h.w1), (by show s 2500 * s 2501 * s 2502 ≤ ((ln (ud D (48 + n) (1, m)) (p 2504) : Nat) : Int); rw [l25]; exact h.w25), (by show s 2700 * s 2701 * s 2702 ≤ ((ln (ud D (48 + n) (1, m)) (p 2704) : Nat) : Int); rw [l27]; exact h.w27), h.m9, h.a12, h.a21, h.pp, ext_smp e h.s12, ext_smp e h.s21, h.wo, h.gz⟩
theorem wp_g6 {g : Nat → Int} {q n m : Nat} {D : Nat → Nat × Nat} {p : Nat → Nat} {s : Nat → Int} (h : wp q g n D p s) (hm : m = 2 * ln D (p 600)) (hl : ln D (p 600) ≤ 262143) (hn : 48 + n < 1000000) : wp q g (n + 1) (ud D (48 + n) (1, m)) (up p 600 (48 + n)) s := by
  have e : ext n D (n + 1) (ud D (48 + n) (1, m)) := ext_1
  have l4 : ln (ud D (48 + n) (1, m)) (p 400) = ln D (p 400) := ext_ln e (arr_lt h.r4.1)
  have l1 : ln (ud D (48 + n) (1, m)) (p 104) = ln D (p 104) := ext_ln e (arr_lt h.p1.1)
  have l25 : ln (ud D (48 + n) (1, m)) (p 2504) = ln D (p 2504) := ext_ln e (arr_lt h.p25.1)
  have l27 : ln (ud D (48 + n) (1, m)) (p 2704) = ln D (p 2704) := ext_ln e (arr_lt h.p27.1)
  have lw : ln (ud D (48 + n) (1, m)) (48 + n) = m := ln_nw
  have hnb : ∃ k4 k6 : Nat, ln (ud D (48 + n) (1, m)) (p 400) = 64 * 2 ^ k4 ∧ ln (ud D (48 + n) (1, m)) (48 + n) = 64 * 2 ^ k6 ∧ k4 ≤ 12 ∧ k6 ≤ 12 ∧ n + 1 ≤ q + k4 + k6 + jc (ln (ud D (48 + n) (1, m)) (p 104)) + jc (ln (ud D (48 + n) (1, m)) (p 2504)) + jc (ln (ud D (48 + n) (1, m)) (p 2704)) ∧ tot (n + 1) (ud D (48 + n) (1, m)) ≤ 128 * 2 ^ k4 + 128 * 2 ^ k6 + pq (ln (ud D (48 + n) (1, m)) (p 104)) + pq (ln (ud D (48 + n) (1, m)) (p 2504)) + pq (ln (ud D (48 + n) (1, m)) (p 2704)) := by
    obtain ⟨k4, k6, e4, e6, b4, b6, hn2, ht⟩ := h.nb
    have hk : k6 ≤ 11 := by
      apply Nat.le_of_not_lt
      intro hq
      have h1 : 2 ^ 12 ≤ 2 ^ k6 := Nat.pow_le_pow_right (by decide) hq
      have e12 : 2 ^ 12 = 4096 := by decide
      omega
    have hs : 2 ^ (k6 + 1) = 2 ^ k6 * 2 := Nat.pow_succ _ _
    refine ⟨k4, k6 + 1, by rw [l4]; exact e4, by rw [lw]; omega, by omega, by omega, by rw [l1, l25, l27]; omega, ?_⟩
    rw [tot_1, l1, l25, l27]
    show tot n D + m ≤ _
    omega
  exact ⟨hnb, dz_1 h.dz, ext_byt e h.r4, ⟨(by show mi_arr _ _ (48 + n) = some (1, ln _ (48 + n)); rw [lw]; exact arr_nw hn), lo_nw1.1, lo_nw1.2⟩, (by show s 401 ≤ ((ln (ud D (48 + n) (1, m)) (p 400) : Nat) : Int); rw [l4]; exact h.c4), (by show s 601 ≤ ((ln (ud D (48 + n) (1, m)) (48 + n) : Nat) : Int); rw [lw]; have := h.c6; omega), ext_smp e h.p1, ext_smp e h.p25, ext_smp e h.p27, (by show s 100 * s 101 * s 102 ≤ ((ln (ud D (48 + n) (1, m)) (p 104) : Nat) : Int); rw [l1]; exact h.w1), (by show s 2500 * s 2501 * s 2502 ≤ ((ln (ud D (48 + n) (1, m)) (p 2504) : Nat) : Int); rw [l25]; exact h.w25), (by show s 2700 * s 2701 * s 2702 ≤ ((ln (ud D (48 + n) (1, m)) (p 2704) : Nat) : Int); rw [l27]; exact h.w27), h.m9, h.a12, h.a21, h.pp, ext_smp e h.s12, ext_smp e h.s21, h.wo, h.gz⟩
theorem wp_cp6 {g : Nat → Int} {q n m : Nat} {D : Nat → Nat × Nat} {p : Nat → Nat} {s : Nat → Int} (h : wp q g n D p s) (hm : m = ln D (p 400)) (hl : (ln D (p 600) : Int) < s 401) (hn : 48 + n < 1000000) : wp q g (n + 1) (ud D (48 + n) (1, m)) (up p 600 (48 + n)) s := by
  have e : ext n D (n + 1) (ud D (48 + n) (1, m)) := ext_1
  have l4 : ln (ud D (48 + n) (1, m)) (p 400) = ln D (p 400) := ext_ln e (arr_lt h.r4.1)
  have l1 : ln (ud D (48 + n) (1, m)) (p 104) = ln D (p 104) := ext_ln e (arr_lt h.p1.1)
  have l25 : ln (ud D (48 + n) (1, m)) (p 2504) = ln D (p 2504) := ext_ln e (arr_lt h.p25.1)
  have l27 : ln (ud D (48 + n) (1, m)) (p 2704) = ln D (p 2704) := ext_ln e (arr_lt h.p27.1)
  have lw : ln (ud D (48 + n) (1, m)) (48 + n) = m := ln_nw
  have hc4 := h.c4
  have hc6 := h.c6
  have hnb : ∃ k4 k6 : Nat, ln (ud D (48 + n) (1, m)) (p 400) = 64 * 2 ^ k4 ∧ ln (ud D (48 + n) (1, m)) (48 + n) = 64 * 2 ^ k6 ∧ k4 ≤ 12 ∧ k6 ≤ 12 ∧ n + 1 ≤ q + k4 + k6 + jc (ln (ud D (48 + n) (1, m)) (p 104)) + jc (ln (ud D (48 + n) (1, m)) (p 2504)) + jc (ln (ud D (48 + n) (1, m)) (p 2704)) ∧ tot (n + 1) (ud D (48 + n) (1, m)) ≤ 128 * 2 ^ k4 + 128 * 2 ^ k6 + pq (ln (ud D (48 + n) (1, m)) (p 104)) + pq (ln (ud D (48 + n) (1, m)) (p 2504)) + pq (ln (ud D (48 + n) (1, m)) (p 2704)) := by
    obtain ⟨k4, k6, e4, e6, b4, b6, hn2, ht⟩ := h.nb
    have hk : k6 + 1 ≤ k4 := by
      apply Nat.le_of_not_lt
      intro hq
      have h1 : 2 ^ k4 ≤ 2 ^ k6 := Nat.pow_le_pow_right (by decide) (by omega)
      omega
    have hs : 2 ^ (k6 + 1) ≤ 2 ^ k4 := Nat.pow_le_pow_right (by decide) hk
    have hs2 : 2 ^ (k6 + 1) = 2 ^ k6 * 2 := Nat.pow_succ _ _
    refine ⟨k4, k4, by rw [l4]; exact e4, by rw [lw, hm]; exact e4, b4, b4, by rw [l1, l25, l27]; omega, ?_⟩
    rw [tot_1, l1, l25, l27]
    show tot n D + m ≤ _
    omega
  exact ⟨hnb, dz_1 h.dz, ext_byt e h.r4, ⟨(by show mi_arr _ _ (48 + n) = some (1, ln _ (48 + n)); rw [lw]; exact arr_nw hn), lo_nw1.1, lo_nw1.2⟩, (by show s 401 ≤ ((ln (ud D (48 + n) (1, m)) (p 400) : Nat) : Int); rw [l4]; exact h.c4), (by show s 601 ≤ ((ln (ud D (48 + n) (1, m)) (48 + n) : Nat) : Int); rw [lw]; omega), ext_smp e h.p1, ext_smp e h.p25, ext_smp e h.p27, (by show s 100 * s 101 * s 102 ≤ ((ln (ud D (48 + n) (1, m)) (p 104) : Nat) : Int); rw [l1]; exact h.w1), (by show s 2500 * s 2501 * s 2502 ≤ ((ln (ud D (48 + n) (1, m)) (p 2504) : Nat) : Int); rw [l25]; exact h.w25), (by show s 2700 * s 2701 * s 2702 ≤ ((ln (ud D (48 + n) (1, m)) (p 2704) : Nat) : Int); rw [l27]; exact h.w27), h.m9, h.a12, h.a21, h.pp, ext_smp e h.s12, ext_smp e h.s21, h.wo, h.gz⟩
theorem wp_rs1 {g : Nat → Int} {q n m : Nat} {D : Nat → Nat × Nat} {p : Nat → Nat} {s : Nat → Int} {w hh pl dp : Int} (h : wp q g n D p s) (h1 : w * hh * pl ≤ m) (h2 : m ≤ 12288) (h3 : ln D (p 104) < 12288) (h4 : m = 12288 ∨ 2 * ln D (p 104) ≤ m) (h5 : 1 ≤ m) (hn : 48 + n < 1000000) : wp q (us (us (us (us g 100 w) 101 hh) 102 pl) 103 dp) (n + 1) (ud D (48 + n) (0, m)) (up p 104 (48 + n)) (us (us (us (us s 100 w) 101 hh) 102 pl) 103 dp) := by
  have e : ext n D (n + 1) (ud D (48 + n) (0, m)) := ext_1
  have l4 : ln (ud D (48 + n) (0, m)) (p 400) = ln D (p 400) := ext_ln e (arr_lt h.r4.1)
  have l6 : ln (ud D (48 + n) (0, m)) (p 600) = ln D (p 600) := ext_ln e (arr_lt h.r6.1)
  have l25 : ln (ud D (48 + n) (0, m)) (p 2504) = ln D (p 2504) := ext_ln e (arr_lt h.p25.1)
  have l27 : ln (ud D (48 + n) (0, m)) (p 2704) = ln D (p 2704) := ext_ln e (arr_lt h.p27.1)
  have lw : ln (ud D (48 + n) (0, m)) (48 + n) = m := ln_nw
  have hnb : ∃ k4 k6 : Nat, ln (ud D (48 + n) (0, m)) (p 400) = 64 * 2 ^ k4 ∧ ln (ud D (48 + n) (0, m)) (p 600) = 64 * 2 ^ k6 ∧ k4 ≤ 12 ∧ k6 ≤ 12 ∧ n + 1 ≤ q + k4 + k6 + jc (ln (ud D (48 + n) (0, m)) (48 + n)) + jc (ln (ud D (48 + n) (0, m)) (p 2504)) + jc (ln (ud D (48 + n) (0, m)) (p 2704)) ∧ tot (n + 1) (ud D (48 + n) (0, m)) ≤ 128 * 2 ^ k4 + 128 * 2 ^ k6 + pq (ln (ud D (48 + n) (0, m)) (48 + n)) + pq (ln (ud D (48 + n) (0, m)) (p 2504)) + pq (ln (ud D (48 + n) (0, m)) (p 2704)) := by
    obtain ⟨k4, k6, e4, e6, b4, b6, hn2, ht⟩ := h.nb
    have hp : m + pq (ln D (p 104)) ≤ pq m := by
      unfold pq
      rw [if_pos h3]
      split <;> omega
    have hj := jc_up h3 h4 h2 h5
    refine ⟨k4, k6, by rw [l4]; exact e4, by rw [l6]; exact e6, b4, b6, by rw [lw, l25, l27]; omega, ?_⟩
    rw [tot_1, lw, l25, l27]
    show tot n D + m ≤ _
    omega
  exact ⟨hnb, dz_1 h.dz, ext_byt e h.r4, ext_byt e h.r6, (by show s 401 ≤ ((ln (ud D (48 + n) (0, m)) (p 400) : Nat) : Int); rw [l4]; exact h.c4), (by show s 601 ≤ ((ln (ud D (48 + n) (0, m)) (p 600) : Nat) : Int); rw [l6]; exact h.c6), ⟨(by show mi_arr _ _ (48 + n) = some (0, ln _ (48 + n)); rw [lw]; exact arr_nw hn), lo_nw0, (by show ln (ud D (48 + n) (0, m)) (48 + n) ≤ 12288; rw [lw]; exact h2)⟩, ext_smp e h.p25, ext_smp e h.p27, (by show w * hh * pl ≤ ((ln (ud D (48 + n) (0, m)) (48 + n) : Nat) : Int); rw [lw]; exact h1), (by show s 2500 * s 2501 * s 2502 ≤ ((ln (ud D (48 + n) (0, m)) (p 2504) : Nat) : Int); rw [l25]; exact h.w25), (by show s 2700 * s 2701 * s 2702 ≤ ((ln (ud D (48 + n) (0, m)) (p 2704) : Nat) : Int); rw [l27]; exact h.w27), h.m9, h.a12, h.a21, h.pp, ext_smp e h.s12, ext_smp e h.s21, h.wo, fun k hk => us_cg (us_cg (us_cg (us_cg (h.gz k hk))))⟩
theorem wp_rz1 {g : Nat → Int} {q n : Nat} {D : Nat → Nat × Nat} {p : Nat → Nat} {s : Nat → Int} {w hh pl dp : Int} (h : wp q g n D p s) (h1 : w * hh * pl ≤ ln D (p 104)) : wp q (us (us (us (us g 100 w) 101 hh) 102 pl) 103 dp) n D p (us (us (us (us s 100 w) 101 hh) 102 pl) 103 dp) := ⟨h.nb, h.dz, h.r4, h.r6, h.c4, h.c6, h.p1, h.p25, h.p27, h1, h.w25, h.w27, h.m9, h.a12, h.a21, h.pp, h.s12, h.s21, h.wo, fun k hk => us_cg (us_cg (us_cg (us_cg (h.gz k hk))))⟩
theorem wp_rs25 {g : Nat → Int} {q n m : Nat} {D : Nat → Nat × Nat} {p : Nat → Nat} {s : Nat → Int} {w hh pl dp : Int} (h : wp q g n D p s) (h1 : w * hh * pl ≤ m) (h2 : m ≤ 12288) (h3 : ln D (p 2504) < 12288) (h4 : m = 12288 ∨ 2 * ln D (p 2504) ≤ m) (h5 : 1 ≤ m) (hn : 48 + n < 1000000) : wp q g (n + 1) (ud D (48 + n) (0, m)) (up p 2504 (48 + n)) (us (us (us (us s 2500 w) 2501 hh) 2502 pl) 2503 dp) := by
  have e : ext n D (n + 1) (ud D (48 + n) (0, m)) := ext_1
  have l4 : ln (ud D (48 + n) (0, m)) (p 400) = ln D (p 400) := ext_ln e (arr_lt h.r4.1)
  have l6 : ln (ud D (48 + n) (0, m)) (p 600) = ln D (p 600) := ext_ln e (arr_lt h.r6.1)
  have l1 : ln (ud D (48 + n) (0, m)) (p 104) = ln D (p 104) := ext_ln e (arr_lt h.p1.1)
  have l27 : ln (ud D (48 + n) (0, m)) (p 2704) = ln D (p 2704) := ext_ln e (arr_lt h.p27.1)
  have lw : ln (ud D (48 + n) (0, m)) (48 + n) = m := ln_nw
  have hnb : ∃ k4 k6 : Nat, ln (ud D (48 + n) (0, m)) (p 400) = 64 * 2 ^ k4 ∧ ln (ud D (48 + n) (0, m)) (p 600) = 64 * 2 ^ k6 ∧ k4 ≤ 12 ∧ k6 ≤ 12 ∧ n + 1 ≤ q + k4 + k6 + jc (ln (ud D (48 + n) (0, m)) (p 104)) + jc (ln (ud D (48 + n) (0, m)) (48 + n)) + jc (ln (ud D (48 + n) (0, m)) (p 2704)) ∧ tot (n + 1) (ud D (48 + n) (0, m)) ≤ 128 * 2 ^ k4 + 128 * 2 ^ k6 + pq (ln (ud D (48 + n) (0, m)) (p 104)) + pq (ln (ud D (48 + n) (0, m)) (48 + n)) + pq (ln (ud D (48 + n) (0, m)) (p 2704)) := by
    obtain ⟨k4, k6, e4, e6, b4, b6, hn2, ht⟩ := h.nb
    have hp : m + pq (ln D (p 2504)) ≤ pq m := by
      unfold pq
      rw [if_pos h3]
      split <;> omega
    have hj := jc_up h3 h4 h2 h5
    refine ⟨k4, k6, by rw [l4]; exact e4, by rw [l6]; exact e6, b4, b6, by rw [lw, l1, l27]; omega, ?_⟩
    rw [tot_1, lw, l1, l27]
    show tot n D + m ≤ _
    omega
  exact ⟨hnb, dz_1 h.dz, ext_byt e h.r4, ext_byt e h.r6, (by show s 401 ≤ ((ln (ud D (48 + n) (0, m)) (p 400) : Nat) : Int); rw [l4]; exact h.c4), (by show s 601 ≤ ((ln (ud D (48 + n) (0, m)) (p 600) : Nat) : Int); rw [l6]; exact h.c6), ext_smp e h.p1, ⟨(by show mi_arr _ _ (48 + n) = some (0, ln _ (48 + n)); rw [lw]; exact arr_nw hn), lo_nw0, (by show ln (ud D (48 + n) (0, m)) (48 + n) ≤ 12288; rw [lw]; exact h2)⟩, ext_smp e h.p27, (by show s 100 * s 101 * s 102 ≤ ((ln (ud D (48 + n) (0, m)) (p 104) : Nat) : Int); rw [l1]; exact h.w1), (by show w * hh * pl ≤ ((ln (ud D (48 + n) (0, m)) (48 + n) : Nat) : Int); rw [lw]; exact h1), (by show s 2700 * s 2701 * s 2702 ≤ ((ln (ud D (48 + n) (0, m)) (p 2704) : Nat) : Int); rw [l27]; exact h.w27), h.m9, h.a12, h.a21, h.pp, ext_smp e h.s12, ext_smp e h.s21, h.wo, fun k hk => us_ng (by decide) hk (us_ng (by decide) hk (us_ng (by decide) hk (us_ng (by decide) hk (h.gz k hk))))⟩
theorem wp_rz25 {g : Nat → Int} {q n : Nat} {D : Nat → Nat × Nat} {p : Nat → Nat} {s : Nat → Int} {w hh pl dp : Int} (h : wp q g n D p s) (h1 : w * hh * pl ≤ ln D (p 2504)) : wp q g n D p (us (us (us (us s 2500 w) 2501 hh) 2502 pl) 2503 dp) := ⟨h.nb, h.dz, h.r4, h.r6, h.c4, h.c6, h.p1, h.p25, h.p27, h.w1, h1, h.w27, h.m9, h.a12, h.a21, h.pp, h.s12, h.s21, h.wo, fun k hk => us_ng (by decide) hk (us_ng (by decide) hk (us_ng (by decide) hk (us_ng (by decide) hk (h.gz k hk))))⟩
theorem wp_rs27 {g : Nat → Int} {q n m : Nat} {D : Nat → Nat × Nat} {p : Nat → Nat} {s : Nat → Int} {w hh pl dp : Int} (h : wp q g n D p s) (h1 : w * hh * pl ≤ m) (h2 : m ≤ 12288) (h3 : ln D (p 2704) < 12288) (h4 : m = 12288 ∨ 2 * ln D (p 2704) ≤ m) (h5 : 1 ≤ m) (hn : 48 + n < 1000000) : wp q g (n + 1) (ud D (48 + n) (0, m)) (up p 2704 (48 + n)) (us (us (us (us s 2700 w) 2701 hh) 2702 pl) 2703 dp) := by
  have e : ext n D (n + 1) (ud D (48 + n) (0, m)) := ext_1
  have l4 : ln (ud D (48 + n) (0, m)) (p 400) = ln D (p 400) := ext_ln e (arr_lt h.r4.1)
  have l6 : ln (ud D (48 + n) (0, m)) (p 600) = ln D (p 600) := ext_ln e (arr_lt h.r6.1)
  have l1 : ln (ud D (48 + n) (0, m)) (p 104) = ln D (p 104) := ext_ln e (arr_lt h.p1.1)
  have l25 : ln (ud D (48 + n) (0, m)) (p 2504) = ln D (p 2504) := ext_ln e (arr_lt h.p25.1)
  have lw : ln (ud D (48 + n) (0, m)) (48 + n) = m := ln_nw
  have hnb : ∃ k4 k6 : Nat, ln (ud D (48 + n) (0, m)) (p 400) = 64 * 2 ^ k4 ∧ ln (ud D (48 + n) (0, m)) (p 600) = 64 * 2 ^ k6 ∧ k4 ≤ 12 ∧ k6 ≤ 12 ∧ n + 1 ≤ q + k4 + k6 + jc (ln (ud D (48 + n) (0, m)) (p 104)) + jc (ln (ud D (48 + n) (0, m)) (p 2504)) + jc (ln (ud D (48 + n) (0, m)) (48 + n)) ∧ tot (n + 1) (ud D (48 + n) (0, m)) ≤ 128 * 2 ^ k4 + 128 * 2 ^ k6 + pq (ln (ud D (48 + n) (0, m)) (p 104)) + pq (ln (ud D (48 + n) (0, m)) (p 2504)) + pq (ln (ud D (48 + n) (0, m)) (48 + n)) := by
    obtain ⟨k4, k6, e4, e6, b4, b6, hn2, ht⟩ := h.nb
    have hp : m + pq (ln D (p 2704)) ≤ pq m := by
      unfold pq
      rw [if_pos h3]
      split <;> omega
    have hj := jc_up h3 h4 h2 h5
    refine ⟨k4, k6, by rw [l4]; exact e4, by rw [l6]; exact e6, b4, b6, by rw [lw, l1, l25]; omega, ?_⟩
    rw [tot_1, lw, l1, l25]
    show tot n D + m ≤ _
    omega
  exact ⟨hnb, dz_1 h.dz, ext_byt e h.r4, ext_byt e h.r6, (by show s 401 ≤ ((ln (ud D (48 + n) (0, m)) (p 400) : Nat) : Int); rw [l4]; exact h.c4), (by show s 601 ≤ ((ln (ud D (48 + n) (0, m)) (p 600) : Nat) : Int); rw [l6]; exact h.c6), ext_smp e h.p1, ext_smp e h.p25, ⟨(by show mi_arr _ _ (48 + n) = some (0, ln _ (48 + n)); rw [lw]; exact arr_nw hn), lo_nw0, (by show ln (ud D (48 + n) (0, m)) (48 + n) ≤ 12288; rw [lw]; exact h2)⟩, (by show s 100 * s 101 * s 102 ≤ ((ln (ud D (48 + n) (0, m)) (p 104) : Nat) : Int); rw [l1]; exact h.w1), (by show s 2500 * s 2501 * s 2502 ≤ ((ln (ud D (48 + n) (0, m)) (p 2504) : Nat) : Int); rw [l25]; exact h.w25), (by show w * hh * pl ≤ ((ln (ud D (48 + n) (0, m)) (48 + n) : Nat) : Int); rw [lw]; exact h1), h.m9, h.a12, h.a21, h.pp, ext_smp e h.s12, ext_smp e h.s21, h.wo, fun k hk => us_ng (by decide) hk (us_ng (by decide) hk (us_ng (by decide) hk (us_ng (by decide) hk (h.gz k hk))))⟩
theorem wp_rz27 {g : Nat → Int} {q n : Nat} {D : Nat → Nat × Nat} {p : Nat → Nat} {s : Nat → Int} {w hh pl dp : Int} (h : wp q g n D p s) (h1 : w * hh * pl ≤ ln D (p 2704)) : wp q g n D p (us (us (us (us s 2700 w) 2701 hh) 2702 pl) 2703 dp) := ⟨h.nb, h.dz, h.r4, h.r6, h.c4, h.c6, h.p1, h.p25, h.p27, h.w1, h.w25, h1, h.m9, h.a12, h.a21, h.pp, h.s12, h.s21, h.wo, fun k hk => us_ng (by decide) hk (us_ng (by decide) hk (us_ng (by decide) hk (us_ng (by decide) hk (h.gz k hk))))⟩

theorem g_copyOf {Zi : Nat → Option (Nat × (Nat → Int))} {d n A : Nat} {D : Nat → Nat × Nat} {s : Nat → Int} {p : Nat → Nat} {c : Nat → Nat → Int} {x : Int} (ha : byt n D A) (hl : 64 ≤ ln D A ∧ ln D A ≤ 262144) (hx : x = 2 * (ln D A : Int)) (hn : 48 + n < 1000000) (hC : bC D c) : tt Zi d 49 (0, [some (.inr (.inl A)), some (.inl x), none], [], n, D, s, p, c) (fun R H => ∃ c1 : Nat → Nat → Int, R = .inl (some (.inr (.inl (48 + n)))) ∧ H = (n + 1, ud D (48 + n) (1, x.toNat), s, p, c1) ∧ bC (ud D (48 + n) (1, x.toNat)) c1 ∧ ∃ f : Nat → Int, c1 = uc c (48 + n) f ∧ ∀ j : Nat, j < ln D A → f j = c A j) := by
  refine tt_k 2 (S' := (2, [some (.inr (.inl A)), some (.inl x), none], [.inr (.inl A), .inl x], n, D, s, p, c)) rfl ?_
  refine tt_len (m := ln D A) rfl ha.1 rfl ?_
  refine tb_ne (x := x) (y := (ln D A : Int)) rfl rfl (by omega) (fun h => ?_) (fun h => absurd h (by omega))
  show tt Zi d 49 (14, [some (.inr (.inl A)), some (.inl x), none], [], n, D, s, p, c) _
  refine tt_k 1 (S' := (15, [some (.inr (.inl A)), some (.inl x), none], [.inl x], n, D, s, p, c)) rfl ?_
  refine tt_nwb (x := x) (k := 1) rfl rfl (by omega) hC ?_
  intro c1 hC1 e1
  have e : ext n D (n + 1) (ud D (48 + n) (1, x.toNat)) := ext_1
  have ha2 := ext_byt e ha
  have l2 : ln (ud D (48 + n) (1, x.toNat)) A = ln D A := ext_ln e (arr_lt ha.1)
  refine tt_k 6 (S' := (23, [some (.inr (.inl A)), some (.inl x), some (.inr (.inl (48 + n)))], [.inr (.inl A), .inl 0, .inr (.inl (48 + n)), .inl 0, .inr (.inl A)], n + 1, ud D (48 + n) (1, x.toNat), s, p, c1)) rfl ?_
  refine tt_len (m := ln (ud D (48 + n) (1, x.toNat)) A) rfl ha2.1 rfl ?_
  refine tt_k 1 (S' := (25, [some (.inr (.inl A)), some (.inl x), some (.inr (.inl (48 + n)))], [.inl x, .inl ((ln (ud D (48 + n) (1, x.toNat)) A : Nat) : Int), .inl 0, .inr (.inl (48 + n)), .inl 0, .inr (.inl A)], n + 1, ud D (48 + n) (1, x.toNat), s, p, c1)) rfl ?_
  refine tt_min (k := 0) (x := ((ln (ud D (48 + n) (1, x.toNat)) A : Nat) : Int)) (y := x) rfl rfl (Nat.le_of_ble_eq_true rfl) (by omega) ?_
  refine tt_cpb (a := A) (b := 48 + n) (t := 1) (n0 := ln (ud D (48 + n) (1, x.toNat)) A) (n1 := x.toNat) (lo := -128) (hi := 127) (k := min ((ln (ud D (48 + n) (1, x.toNat)) A : Nat) : Int) x) (dp := 0) (sp := 0) rfl rfl ha2.1 (arr_nw hn) (by decide) (Nat.le_of_ble_eq_true rfl) (by omega) hC1 ha2.2 lo_nw1 (Or.inr ⟨rfl, rfl⟩) ?_
  intro c2 hC2 e2
  refine tt_k 1 (S' := (32, [some (.inr (.inl A)), some (.inl x), some (.inr (.inl (48 + n)))], [.inr (.inl (48 + n))], n + 1, ud D (48 + n) (1, x.toNat), s, p, c2)) rfl ?_
  refine tt_fn (v := .inl (some (.inr (.inl (48 + n))))) (w := (n + 1, ud D (48 + n) (1, x.toNat), s, p, c2)) rfl rfl ⟨c2, rfl, rfl, hC2, va_cpy (c1 A) (c1 (48 + n)) (0 : Int).toNat (0 : Int).toNat (min ((ln (ud D (48 + n) (1, x.toNat)) A : Nat) : Int) x).toNat, (by rw [e2, e1, uc_uc]), fun j hj => ?_⟩
  have hA : A ≠ 48 + n := Nat.ne_of_lt (arr_lt ha.1)
  unfold va_cpy
  rw [if_pos (by omega), e1, uc_ne hA]
  have e3 : (0 : Int).toNat + (j - (0 : Int).toNat) = j := by omega
  rw [e3]
