/-! a plane as numbers alone, and what its bits cost -/
def wu (W : WT) : Int := w_u W.2.1 W.2.2.1 W.2.2.2
def wok (W : WT) : Prop := w_ok W.2.2.1 W.2.2.2
theorem wBit_u {W : WT} {b : Int} (h : wok W) (hb : 0 ≤ b ∧ b ≤ 1) : wok (wBit W b) ∧ wu (wBit W b) ≤ wu W + 8 + b ∧ W.2.1 ≤ (wBit W b).2.1 := by
  unfold wBit
  by_cases hr : W.2.2.2 = 1
  · rw [if_pos hr]
    by_cases e : 2 * W.2.2.1 + b = 255
    · rw [if_pos e]
      exact ⟨w_ok0 (Or.inl rfl), w_bit3 h hr hb rfl (Or.inl ⟨e, rfl⟩), by show W.2.1 ≤ W.2.1 + 1; omega⟩
    · rw [if_neg e]
      exact ⟨w_ok0 (Or.inr rfl), w_bit3 h hr hb rfl (Or.inr ⟨e, rfl⟩), by show W.2.1 ≤ W.2.1 + 1; omega⟩
  · rw [if_neg hr]
    have h1 := w_bit1 (size := W.2.1) h hb hr
    exact ⟨h1.1, h1.2, Int.le_refl _⟩
theorem wBits_u : ∀ (n : Nat) (v : Int) (W : WT), wok W → wok (wBits n v W) ∧ wu (wBits n v W) ≤ wu W + 8 * n + (if v = 0 then 0 else (n : Int)) ∧ W.2.1 ≤ (wBits n v W).2.1
  | 0, v, W, h => ⟨h, by show wu W ≤ _; split <;> omega, Int.le_refl _⟩
  | n + 1, v, W, h => by
    rw [wBits]
    have hb : 0 ≤ v / 2 ^ n % 2 ∧ v / 2 ^ n % 2 ≤ 1 := by omega
    have hz : v = 0 → v / 2 ^ n % 2 = 0 := by
      intro e
      rw [e, Int.zero_ediv]
      rfl
    obtain ⟨h1, h2, h3⟩ := wBit_u h hb
    obtain ⟨h4, h5, h6⟩ := wBits_u n v _ h1
    refine ⟨h4, ?_, by omega⟩
    by_cases e : v = 0
    · rw [if_pos e] at h5 ⊢
      have := hz e
      omega
    · rw [if_neg e] at h5 ⊢
      omega
def cst (m k z q : Int) : Int := if mi_shr m k < z then 8 * mi_shr m k + 9 + 9 * k else 8 * z + 9 + 9 * q
theorem wNum_u {W : WT} {m k z q : Int} (h : wok W) (hm : 0 ≤ m ∧ m ≤ 2147483647) (hk : 0 ≤ k ∧ k ≤ 30) (hz : 0 ≤ z) (hq : 0 ≤ q) : wok (wNum W m k z q) ∧ wu (wNum W m k z q) ≤ wu W + cst m k z q ∧ W.2.1 ≤ (wNum W m k z q).2.1 := by
  have e := mi_shr_div (x := m) (k := k) (by omega) hk.1 (by omega)
  have e0 := mi_shr_nn (x := m) (k := k) (by omega) (by omega)
  unfold wNum cst
  rw [← e]
  by_cases hc : mi_shr m k < z
  · rw [if_pos hc, if_pos hc]
    obtain ⟨a1, a2, a3⟩ := wBits_u (mi_shr m k).toNat 0 W h
    obtain ⟨b1, b2, b3⟩ := wBit_u (b := 1) a1 (by decide)
    obtain ⟨c1, c2, c3⟩ := wBits_u k.toNat m _ b1
    rw [if_pos rfl] at a2
    refine ⟨c1, ?_, by omega⟩
    split at c2 <;> omega
  · rw [if_neg hc, if_neg hc]
    obtain ⟨a1, a2, a3⟩ := wBits_u z.toNat 0 W h
    obtain ⟨b1, b2, b3⟩ := wBit_u (b := 1) a1 (by decide)
    obtain ⟨c1, c2, c3⟩ := wBits_u q.toNat (m - 1) _ b1
    rw [if_pos rfl] at a2
    refine ⟨c1, ?_, by omega⟩
    split at c2 <;> omega
theorem kf_sp {n a : Int} : ∀ (m k : Nat), a ≤ n * 2 ^ (k + m) → ∃ r : Nat, kf m (n * 2 ^ k) a k = r ∧ k ≤ r ∧ r ≤ k + m ∧ a ≤ n * 2 ^ r ∧ (r = k ∨ n * 2 ^ (r - 1) < a)
  | 0, k, h => ⟨k, rfl, Nat.le_refl _, Nat.le_refl _, h, Or.inl rfl⟩
  | m + 1, k, h => by
    rw [kf]
    by_cases e : n * 2 ^ k < a
    · rw [if_pos e]
      have e2 : 2 * (n * 2 ^ k) = n * 2 ^ (k + 1) := by rw [Int.pow_succ, Int.mul_comm 2, Int.mul_assoc]
      have e3 : ((k : Int) + 1) = ((k + 1 : Nat) : Int) := by omega
      rw [e2, e3]
      obtain ⟨r, h1, h2, h3, h4, h5⟩ := kf_sp m (k + 1) (by rw [show k + 1 + m = k + (m + 1) by omega]; exact h)
      refine ⟨r, h1, by omega, by omega, h4, ?_⟩
      rcases h5 with h5 | h5
      · right
        rw [h5]
        exact e
      · exact Or.inr h5
    · rw [if_neg e]
      exact ⟨k, rfl, Nat.le_refl _, by omega, by omega, Or.inl rfl⟩
theorem ke_sp {a n : Int} (hn : 1 ≤ n) (ha : a ≤ 536870912) : (0 ≤ ke a n ∧ ke a n ≤ 30) ∧ a ≤ n * 2 ^ (ke a n).toNat ∧ (ke a n = 0 ∨ n * 2 ^ (ke a n - 1).toNat < a) := by
  have h0 : a ≤ n * 2 ^ (0 + 31) := by
    have e : (2 : Int) ^ (0 + 31) = 2147483648 := by decide
    rw [e]
    omega
  obtain ⟨r, h1, h2, h3, h4, h5⟩ := kf_sp (n := n) (a := a) 31 0 h0
  have e : ke a n = r := by
    unfold ke
    rw [← h1]
    congr 1
    rw [Int.pow_zero, Int.mul_one]
  rw [e]
  have hr : r ≤ 30 := by
    rcases h5 with h5 | h5
    · omega
    · apply Nat.le_of_not_lt
      intro hq
      have h6 : (2 : Int) ^ 30 ≤ 2 ^ (r - 1) := mi_pw (by omega)
      have h7 : 1 * 2 ^ (r - 1) ≤ n * 2 ^ (r - 1) := Int.mul_le_mul_of_nonneg_right hn (Int.le_of_lt (Int.pow_pos (by decide)))
      have e30 : (2 : Int) ^ 30 = 1073741824 := by decide
      omega
  refine ⟨by omega, by rw [Int.toNat_natCast]; exact h4, ?_⟩
  rcases h5 with h5 | h5
  · exact Or.inl (by omega)
  · by_cases hz : r = 0
    · exact Or.inl (by omega)
    · right
      rw [show ((r : Int) - 1).toNat = r - 1 by omega]
      exact h5
theorem fE1_bd {Z : Nat → Int} {d : Int} (hz : mv Z) (hd : -(Z 3017) ≤ d ∧ d ≤ Z 3017) : (-(Z 3024 - 1) ≤ fE1 Z d ∧ fE1 Z d ≤ Z 3024 - 1) ∧ (Z 3018 < fA d → fE1 Z d ≠ 0) := by
  have hx := mv_fx hz
  unfold fE1
  by_cases e : 0 < d
  · rw [if_pos e]
    have h1 := mv_div hz (x := d + Z 3018) (by omega)
    have h0 : 0 ≤ (d + Z 3018) / Z 3023 := Int.ediv_nonneg (by omega) (by omega)
    refine ⟨by omega, fun hf => ?_⟩
    unfold fA at hf
    rw [if_pos (by omega)] at hf
    have h2 : 1 ≤ (d + Z 3018) / Z 3023 := Int.le_ediv_of_mul_le (by omega) (by omega)
    omega
  · rw [if_neg e]
    have h1 := mv_div hz (x := Z 3018 - d) (by omega)
    have h0 : 0 ≤ (Z 3018 - d) / Z 3023 := Int.ediv_nonneg (by omega) (by omega)
    refine ⟨by omega, fun hf => ?_⟩
    unfold fA at hf
    by_cases e2 : 0 ≤ d
    · rw [if_pos e2] at hf
      omega
    · rw [if_neg e2] at hf
      have h2 : 1 ≤ (Z 3018 - d) / Z 3023 := Int.le_ediv_of_mul_le (by omega) (by omega)
      omega
theorem fE_bd {Z : Nat → Int} {d : Int} (hz : mv Z) (hd : -(Z 3017) ≤ d ∧ d ≤ Z 3017) : (-(Z 3024 / 2) ≤ fE Z d ∧ fE Z d ≤ (Z 3024 - 1) / 2) ∧ (Z 3018 < fA d → fE Z d ≠ 0) := by
  have hx := mv_fx hz
  obtain ⟨h1, h2⟩ := fE1_bd hz hd
  unfold fE fE3 fE2
  refine ⟨by (repeat' split) <;> omega, fun hf => ?_⟩
  have h3 := h2 hf
  (repeat' split) <;> omega
theorem fW_bd {Z : Nat → Int} {v : Int} (hz : mv Z) : 0 ≤ fW Z v ∧ fW Z v ≤ Z 3017 := by
  have hx := mv_fx hz
  unfold fW
  omega
theorem fA_0 {v : Int} : 0 ≤ fA v := by
  unfold fA
  split <;> omega
theorem eR_bd {Z : Nat → Int} {g t v : Int} (hz : mv Z) (hg : 0 ≤ g ∧ g ≤ Z 3017) (hv : 0 ≤ v ∧ v ≤ Z 3017) : (-(Z 3024 / 2) ≤ eR Z g t v ∧ eR Z g t v ≤ (Z 3024 - 1) / 2) ∧ (Z 3018 < fA (v - g) → eR Z g t v ≠ 0) := by
  unfold eR
  by_cases e : t = 1
  · rw [if_pos e]
    have h := fE_bd (d := g - v) hz (by omega)
    refine ⟨h.1, fun hf => h.2 ?_⟩
    unfold fA at hf ⊢
    (repeat' split at hf) <;> (repeat' split) <;> omega
  · rw [if_neg e]
    exact fE_bd (d := v - g) hz (by omega)
