/-! one sample as numbers alone -/
def fA (v : Int) : Int := if 0 ≤ v then v else -v
def fg (Z : Nat → Int) (h : Int) : Int := if h ≤ Z 3018 then 0 else if h < Z 3019 then 1 else if h < Z 3020 then 2 else if h < Z 3021 then 3 else 4
def fG (Z : Nat → Int) (v : Int) : Int := if v < 0 then -(fg Z (fA v)) else fg Z (fA v)
def fP (a b c : Int) : Int := if max a b ≤ c then min a b else if c ≤ min a b then max a b else a + b - c
def fW (Z : Nat → Int) (v : Int) : Int := max 0 (min (Z 3017) v)
def fE1 (Z : Nat → Int) (d : Int) : Int := if 0 < d then (d + Z 3018) / Z 3023 else -((Z 3018 - d) / Z 3023)
def fE2 (Z : Nat → Int) (e : Int) : Int := if e < 0 then e + Z 3024 else e
def fE3 (Z : Nat → Int) (e : Int) : Int := if (Z 3024 + 1) / 2 ≤ e then e - Z 3024 else e
def fE (Z : Nat → Int) (d : Int) : Int := fE3 Z (fE2 Z (fE1 Z d))
def fR1 (Z : Nat → Int) (v : Int) : Int := if v < -(Z 3018) then v + Z 3024 * Z 3023 else if Z 3017 + Z 3018 < v then v - Z 3024 * Z 3023 else v
def fR (Z : Nat → Int) (g e : Int) : Int := fW Z (fR1 Z (g + e * Z 3023))
/-- the exponent: how often n is doubled until it is not below a -/
def kf : Nat → Int → Int → Int → Int
  | 0, _, _, k => k
  | m + 1, n, a, k => if n < a then kf m (2 * n) a (k + 1) else k
def ke (a n : Int) : Int := kf 31 n a 0
theorem kf_eq {n a r : Int} (hr : 0 ≤ r) (h1 : a ≤ n * 2 ^ r.toNat) (h2 : ∀ j : Int, 0 ≤ j → j < r → n * 2 ^ j.toNat < a) : ∀ (m : Nat) (k : Int), 0 ≤ k → k ≤ r → r ≤ k + m → kf m (n * 2 ^ k.toNat) a k = r
  | 0, k, h0, hk, hm => by
    rw [kf]
    omega
  | m + 1, k, h0, hk, hm => by
    rw [kf]
    by_cases e : k = r
    · subst e
      rw [if_neg (by omega)]
    · rw [if_pos (h2 k h0 (by omega))]
      have e2 : 2 * (n * 2 ^ k.toNat) = n * 2 ^ (k + 1).toNat := by
        rw [show (k + 1).toNat = k.toNat + 1 by omega, Int.pow_succ, Int.mul_comm 2, Int.mul_assoc]
      rw [e2]
      exact kf_eq hr h1 h2 m (k + 1) (by omega) (by omega) (by omega)
theorem ke_eq {n a r : Int} (hn : 0 ≤ n) (hr : 0 ≤ r ∧ r ≤ 30) (h1 : a ≤ n * 2 ^ r.toNat) (h2 : r = 0 ∨ n * 2 ^ (r - 1).toNat < a) : r = ke a n := by
  have h := kf_eq (n := n) (a := a) (r := r) hr.1 h1 (fun j j0 j1 => by
    rcases h2 with h2 | h2
    · omega
    · have h3 : (2 : Int) ^ j.toNat ≤ 2 ^ (r - 1).toNat := mi_pw (by omega)
      have h4 : n * 2 ^ j.toNat ≤ n * 2 ^ (r - 1).toNat := Int.mul_le_mul_of_nonneg_left h3 hn
      omega) 31 0 (by decide) hr.1 (by omega)
  rw [show (0 : Int).toNat = 0 from rfl, Int.pow_zero, Int.mul_one] at h
  exact h.symm
/-- a place learns -/
def hv (H n x : Int) : Int := if n = H then x / 2 else x
def lB (b n : Int) : Int := if b ≤ -n then max (1 - n) (b + n) else if 0 < b then min 0 (b - n) else b
def lC (b n c : Int) : Int := if b ≤ -n then max (-128) (c - 1) else if 0 < b then min 127 (c + 1) else c
abbrev MT : Type := Nat → Nat → Int
def mAdd (M : MT) (i : Nat) (a b : Int) : MT := uc (uc M 36 (ua (M 36) i (M 36 i + a))) 37 (ua (M 37) i (M 37 i + b))
def mCnt (H : Int) (M : MT) (i : Nat) : MT := uc (uc (uc M 36 (ua (M 36) i (hv H (M 39 i) (M 36 i)))) 37 (ua (M 37) i (hv H (M 39 i) (M 37 i)))) 39 (ua (M 39) i (hv H (M 39 i) (M 39 i) + 1))
def mCor (M : MT) (i : Nat) : MT := uc (uc M 37 (ua (M 37) i (lB (M 37 i) (M 39 i)))) 38 (ua (M 38) i (lC (M 37 i) (M 39 i) (M 38 i)))
def mLrn (Z : Nat → Int) (M : MT) (i : Nat) (e : Int) : MT := mCor (mCnt (Z 3022) (mAdd M i (fA e) (e * Z 3023)) i) i
def mStp (Z : Nat → Int) (M : MT) (i : Nat) (e mo : Int) : MT := mCnt (Z 3022) (mAdd M i mo (if e < 0 then 1 else 0)) i
/-- the places M stand so in four rows -/
def mrl (M : MT) (fa fb fc fn : Nat → Int) : Prop := ∀ i : Nat, i < 367 → fa i = M 36 i ∧ fb i = M 37 i ∧ fc i = M 38 i ∧ fn i = M 39 i
/-- the number of an error, and what a stop tells -/
def fM (e odd : Int) : Int := if e < 0 then (if odd = 1 then -2 * (e + 1) else -2 * e - 1) else (if odd = 1 then 2 * e + 1 else 2 * e)
def fN (e s few : Int) : Int := 2 * fA e - s - (if (few = 1 ∧ 0 < e) ∨ (e < 0 ∧ few = 0) then 1 else 0)
/-- writer, places, pace, samples told -/
abbrev XT : Type := WT × MT × Int × (Nat → Int)
def gR (Z : Nat → Int) (a b c t : Int) (i : Nat) (M : MT) : Int := fW Z (if t = 1 then fP a b c - M 38 i else fP a b c + M 38 i)
def oR (Z : Nat → Int) (i : Nat) (M : MT) : Int := if Z 3018 = 0 ∧ ke (M 36 i) (M 39 i) = 0 ∧ 2 * M 37 i ≤ -(M 39 i) then 1 else 0
def eR (Z : Nat → Int) (g t v : Int) : Int := fE Z (if t = 1 then g - v else v - g)
def rR (Z : Nat → Int) (g t e : Int) : Int := fR Z g (if t = 1 then -e else e)
def xReg (Z : Nat → Int) (v a b c t : Int) (i j : Nat) (X : XT) : XT :=
  (wNum X.1 (fM (eR Z (gR Z a b c t i X.2.1) t v) (oR Z i X.2.1)) (ke (X.2.1 36 i) (X.2.1 39 i)) (Z 3026 - Z 3025 - 1) (Z 3025),
   mLrn Z X.2.1 i (eR Z (gR Z a b c t i X.2.1) t v), X.2.2.1, ua X.2.2.2 j (rR Z (gR Z a b c t i X.2.1) t (eR Z (gR Z a b c t i X.2.1) t v)))
def sS (Z : Nat → Int) (a b : Int) : Int := if fA (a - b) ≤ Z 3018 then 1 else 0
def gS (Z : Nat → Int) (a b : Int) : Int := if sS Z a b = 1 then a else b
def tS (Z : Nat → Int) (a b : Int) : Int := if sS Z a b = 0 ∧ b < a then 1 else 0
def kS (M : MT) (s : Int) : Int := ke (M 36 (365 + s).toNat + (if s = 1 then M 39 (365 + s).toNat / 2 else 0)) (M 39 (365 + s).toNat)
def oS (M : MT) (s : Int) : Int := if kS M s = 0 ∧ 2 * M 37 (365 + s).toNat < M 39 (365 + s).toNat then 1 else 0
def eS (Z : Nat → Int) (a b v : Int) : Int := eR Z (gS Z a b) (tS Z a b) v
def nS (Z : Nat → Int) (a b v : Int) (M : MT) : Int := fN (eS Z a b v) (sS Z a b) (oS M (sS Z a b))
def xStp (Z : Nat → Int) (v a b : Int) (j : Nat) (X : XT) : XT :=
  (wNum X.1 (nS Z a b v X.2.1) (kS X.2.1 (sS Z a b)) (Z 3026 - 1 - jj X.2.2.1 - Z 3025 - 1) (Z 3025),
   mStp Z X.2.1 (365 + sS Z a b).toNat (eS Z a b v) ((nS Z a b v X.2.1 + 1 - sS Z a b) / 2), (if 0 < X.2.2.1 then X.2.2.1 - 1 else 0), ua X.2.2.2 j (rR Z (gS Z a b) (tS Z a b) (eS Z a b v)))
/-- how many samples from x on stay within near of a -/
def rN (S : Int → Int) (a near w : Int) : Nat → Int → Int → Int
  | 0, _, n => n
  | m + 1, x, n => if x + n < w ∧ fA (S (x + n) - a) ≤ near then rN S a near w m x (n + 1) else n
/-- the pieces of a run: what is left of it, the pace, the writer -/
def rP : Nat → Int → Int → WT → Int × Int × WT
  | 0, l, p, W => (l, p, W)
  | m + 1, l, p, W => if 2 ^ (jj p).toNat ≤ l then rP m (l - 2 ^ (jj p).toNat) (min 31 (p + 1)) (wBit W 1) else (l, p, W)
def fil (T : Nat → Int) (j : Nat) (n v : Int) : Nat → Int := fun k => if (j : Int) ≤ k ∧ (k : Int) < j + n then v else T k
