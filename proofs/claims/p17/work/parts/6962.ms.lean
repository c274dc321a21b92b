/-! the measures as numbers alone -/
def zMo (f0 b : Int) : Int := if f0 = 0 then 2 ^ b.toNat - 1 else f0
def zHa (f4 : Int) : Int := if f4 = 0 then 64 else f4
def zPt (A B C mo n : Int) : Int := if mo < 128 then max B (A / (256 / (mo + 1)) + C * n) else (min mo 4095 + 128) / 256 * (A - B) + B + C * n
def zPl (v l mo : Int) : Int := if v < l ∨ mo < v then l else v
def zT1 (f1 mo n : Int) : Int := if f1 = 0 then zPl (zPt 3 2 3 mo n) (n + 1) mo else f1
def zT2 (f2 t1 mo n : Int) : Int := if f2 = 0 then zPl (zPt 7 3 5 mo n) t1 mo else f2
def zT3 (f3 t2 mo n : Int) : Int := if f3 = 0 then zPl (zPt 21 4 7 mo n) t2 mo else f3
def zRg (mo n : Int) : Int := (mo + 2 * n) / (2 * n + 1) + 1
def zBo (mo : Int) : Int := max 2 (ke (mo + 1) 1)
def zLo (mo : Int) : Int := 2 * (zBo mo + max 8 (zBo mo))
/-- the measures of a scan: what was told, the depth, near -/
def ZM (f0 f1 f2 f3 f4 b n : Int) : Nat → Int := fun k =>
  if k = 3017 then zMo f0 b else if k = 3018 then n else if k = 3019 then zT1 f1 (zMo f0 b) n else if k = 3020 then zT2 f2 (zT1 f1 (zMo f0 b) n) (zMo f0 b) n
  else if k = 3021 then zT3 f3 (zT2 f2 (zT1 f1 (zMo f0 b) n) (zMo f0 b) n) (zMo f0 b) n else if k = 3022 then zHa f4 else if k = 3023 then 2 * n + 1 else if k = 3024 then zRg (zMo f0 b) n else if k = 3025 then ke (zRg (zMo f0 b) n) 1 else zLo (zMo f0 b)
/-- they are as they must be -/
def VM (f0 f1 f2 f3 f4 b n : Int) : Prop := zMo f0 b ≤ 2 ^ b.toNat - 1 ∧ (0 ≤ n ∧ n ≤ 255) ∧ n ≤ zMo f0 b / 2 ∧ n < zT1 f1 (zMo f0 b) n ∧ zT1 f1 (zMo f0 b) n ≤ zT2 f2 (zT1 f1 (zMo f0 b) n) (zMo f0 b) n ∧ zT2 f2 (zT1 f1 (zMo f0 b) n) (zMo f0 b) n ≤ zT3 f3 (zT2 f2 (zT1 f1 (zMo f0 b) n) (zMo f0 b) n) (zMo f0 b) n ∧ zT3 f3 (zT2 f2 (zT1 f1 (zMo f0 b) n) (zMo f0 b) n) (zMo f0 b) n ≤ zMo f0 b ∧ 3 ≤ zHa f4 ∧ zHa f4 ≤ max 255 (zMo f0 b)
theorem pw_bits {b : Int} (h : 2 ≤ b ∧ b ≤ 16) : (4 : Int) ≤ 2 ^ b.toNat ∧ (2 : Int) ^ b.toNat ≤ 65536 := by
  have h1 : (2 : Int) ^ (2 : Int).toNat ≤ 2 ^ b.toNat := mi_pw (by omega)
  have h2 : (2 : Int) ^ b.toNat ≤ 2 ^ (16 : Int).toNat := mi_pw (by omega)
  have e1 : (2 : Int) ^ (2 : Int).toNat = 4 := by decide
  have e2 : (2 : Int) ^ (16 : Int).toNat = 65536 := by decide
  omega
theorem zMo_bd {f0 b : Int} (hf : 0 ≤ f0 ∧ f0 ≤ 65535) (hb : 2 ≤ b ∧ b ≤ 16) : 1 ≤ zMo f0 b ∧ zMo f0 b ≤ 65535 := by
  have h := pw_bits hb
  unfold zMo
  split <;> omega
theorem bo_eq {b mo : Int} (hb : 2 ≤ b ∧ b ≤ 17) (h1 : mo < 2 ^ b.toNat) (h2 : b = 2 ∨ 2 ^ (b - 1).toNat ≤ mo) (hm : 0 ≤ mo ∧ mo ≤ 65535) : b = zBo mo := by
  unfold zBo
  obtain ⟨k1, k2, k3⟩ := ke_sp (a := mo + 1) (n := 1) (by decide) (by omega)
  rw [Int.one_mul] at k2
  rcases h2 with h2 | h2
  · subst h2
    have e : (2 : Int) ^ (2 : Int).toNat = 4 := by decide
    by_cases hk : ke (mo + 1) 1 ≤ 2
    · omega
    · rcases k3 with k3 | k3
      · omega
      · have h5 : (2 : Int) ^ (2 : Int).toNat ≤ 2 ^ (ke (mo + 1) 1 - 1).toNat := mi_pw (by omega)
        omega
  · have h := ke_eq (a := mo + 1) (n := 1) (r := b) (by decide) (by omega) (by omega) (Or.inr (by omega))
    omega
theorem rg_pos {mo n : Int} (h0 : 0 ≤ mo ∧ mo ≤ 65535) (hn : 0 ≤ n ∧ n ≤ 255) : 1 ≤ zRg mo n ∧ zRg mo n ≤ 65536 := by
  unfold zRg
  have h1 := rg_le h0.1 hn.1
  have h2 : 0 ≤ (mo + 2 * n) / (2 * n + 1) := Int.ediv_nonneg (by omega) (by omega)
  omega
theorem VM_mv {f0 f1 f2 f3 f4 b n : Int} (hf : 0 ≤ f0 ∧ f0 ≤ 65535) (hb : 2 ≤ b ∧ b ≤ 16) (h : VM f0 f1 f2 f3 f4 b n) : mv (ZM f0 f1 f2 f3 f4 b n) := by
  have hm := zMo_bd hf hb
  obtain ⟨v1, v2, v3, v4, v5, v6, v7, v8, v9⟩ := h
  have hr := rg_pos (mo := zMo f0 b) (n := n) (by omega) v2
  obtain ⟨k1, k2, k3⟩ := ke_sp (a := zRg (zMo f0 b) n) (n := 1) (by decide) (by omega)
  obtain ⟨j1, j2, j3⟩ := ke_sp (a := zMo f0 b + 1) (n := 1) (by decide) (by omega)
  rw [Int.one_mul] at k2 k3 j2 j3
  have hbo : 2 ≤ zBo (zMo f0 b) ∧ zBo (zMo f0 b) ≤ 16 := by
    unfold zBo
    have h16 := pw_16b (k := ke (zMo f0 b + 1) 1) (v := zMo f0 b + 1) j1.1 j3 (by omega)
    omega
  have hb1 : zMo f0 b < 2 ^ (zBo (zMo f0 b)).toNat := by
    have h5 : (2 : Int) ^ (ke (zMo f0 b + 1) 1).toNat ≤ 2 ^ (zBo (zMo f0 b)).toNat := mi_pw (by unfold zBo; omega)
    omega
  have e1 : zRg (zMo f0 b) n = (zMo f0 b + 2 * n).tdiv (2 * n + 1) + 1 := by
    rw [Int.tdiv_eq_ediv_of_nonneg (by omega)]
    rfl
  exact mv_mk (b := zBo (zMo f0 b)) hm.2 v2 v3 rfl e1 ⟨v4, v5, v6, v7⟩ (show 3 ≤ zHa f4 ∧ zHa f4 ≤ 65535 by omega) k1.1 k2 k3 hbo hb1 rfl
