/-! the reference packs -/
theorem w_u08 {x : Int} : w_u x 0 8 = 64 * x := by
  have e : w_on 0 8 = 0 := by decide
  unfold w_u
  rw [e]
  omega
def cvk (w most : Int) (f : Nat → Int) (p k : Int) : Prop := ∀ kk : Int, 0 ≤ kk → kk < k → f (4096 * p + 64 * (kk / w) + kk % w).toNat ≤ most
def cvp (w h most : Int) (f : Nat → Int) (p : Int) : Prop := ∀ pp : Int, 0 ≤ pp → pp < p → cvk w most f pp (w * h)
theorem cvk_0 {w most p : Int} {f : Nat → Int} : cvk w most f p 0 := fun kk h1 h2 => absurd h2 (by omega)
theorem cvk_s {w most p k : Int} {f : Nat → Int} (h : cvk w most f p k) (hk : 0 ≤ k) (hv : f (4096 * p + 64 * (k / w) + k % w).toNat ≤ most) : cvk w most f p (k + 1) := by
  intro kk h1 h2
  by_cases e : kk = k
  · subst e; exact hv
  · exact h kk h1 (by omega)
theorem cvp_0 {w h most : Int} {f : Nat → Int} : cvp w h most f 0 := fun kk h1 h2 => absurd h2 (by omega)
theorem cvp_s {w h most p k : Int} {f : Nat → Int} (hp : cvp w h most f p) (hk : cvk w most f p k) (hle : w * h ≤ k) : cvp w h most f (p + 1) := by
  intro pp h1 h2
  by_cases e : pp = p
  · subst e; exact fun kk g1 g2 => hk kk g1 (by omega)
  · exact hp pp h1 (by omega)
theorem cvp_mono {w h most p q : Int} {f : Nat → Int} (hp : cvp w h most f p) (hq : q ≤ p) : cvp w h most f q := fun pp h1 h2 => hp pp h1 (by omega)
theorem cvp_use {w h most p q xx yy : Int} {f : Nat → Int} (hp : cvp w h most f p) (h0 : 0 ≤ q) (hq : q < p) (h1 : 0 ≤ xx) (h2 : xx < w) (h3 : 0 ≤ yy) (h4 : yy < h) : f (4096 * q + 64 * yy + xx).toNat ≤ most := by
  have hw : 0 < w := by omega
  have e0 : 0 ≤ yy * w := Int.mul_nonneg h3 (by omega)
  have e1 : (yy + 1) * w ≤ h * w := Int.mul_le_mul_of_nonneg_right (by omega) (by omega)
  rw [Int.add_mul, Int.one_mul, Int.mul_comm h w] at e1
  have h5 := hp q h0 hq (xx + yy * w) (by omega) (by omega)
  have d1 : (xx + yy * w) / w = yy := by
    rw [Int.add_mul_ediv_right _ _ (by omega), Int.ediv_eq_zero_of_lt h1 h2]
    omega
  have d2 : (xx + yy * w) % w = xx := by
    rw [Int.add_mul_emod_self_right, Int.emod_eq_of_lt h1 h2]
  rw [d1, d2] at h5
  exact h5
