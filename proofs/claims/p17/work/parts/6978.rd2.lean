/-! reading a plane as numbers alone -/
abbrev XR : Type := RDT × MT × Int × (Nat → Int)
def eM (m o : Int) : Int := if (m % 2 = 1 ∧ o ≠ 1) ∨ (m % 2 ≠ 1 ∧ o = 1) then -(m / 2) - 1 else m / 2
def eT (m s o : Int) : Int := if ((m + s) % 2 = 1 ∧ o ≠ 1) ∨ ((m + s) % 2 ≠ 1 ∧ o = 1) then -((m + s + 1) / 2) else (m + s + 1) / 2
def rReg (A : TN) (Z : Nat → Int) (a b c t : Int) (i j : Nat) (X : XR) : Option XR :=
  (rdNum A (ke (X.2.1 36 i) (X.2.1 39 i)) (Z 3026 - Z 3025 - 1) (Z 3025) X.1).bind fun q =>
    if -(Z 3024 / 2) ≤ eM q.1 (oR Z i X.2.1) ∧ eM q.1 (oR Z i X.2.1) ≤ (Z 3024 - 1) / 2 then some (q.2, mLrn Z X.2.1 i (eM q.1 (oR Z i X.2.1)), X.2.2.1, ua X.2.2.2 j (rR Z (gR Z a b c t i X.2.1) t (eM q.1 (oR Z i X.2.1)))) else none
def rStp (A : TN) (Z : Nat → Int) (a b : Int) (j : Nat) (X : XR) : Option XR :=
  (rdNum A (kS X.2.1 (sS Z a b)) (Z 3026 - 1 - jj X.2.2.1 - Z 3025 - 1) (Z 3025) X.1).bind fun q =>
    if -(Z 3024 / 2) ≤ eT q.1 (sS Z a b) (oS X.2.1 (sS Z a b)) ∧ eT q.1 (sS Z a b) (oS X.2.1 (sS Z a b)) ≤ (Z 3024 - 1) / 2 then some (q.2, mStp Z X.2.1 (365 + sS Z a b).toNat (eT q.1 (sS Z a b) (oS X.2.1 (sS Z a b))) ((q.1 + 1 - sS Z a b) / 2), (if 0 < X.2.2.1 then X.2.2.1 - 1 else 0), ua X.2.2.2 j (rR Z (gS Z a b) (tS Z a b) (eT q.1 (sS Z a b) (oS X.2.1 (sS Z a b))))) else none
/-- a run: how many samples, the pace, the reader -/
def rRun (A : TN) (room : Int) : Nat → Int → Int → RDT → Option (Int × Int × RDT)
  | 0, _, _, _ => none
  | f + 1, n, p, d => if room ≤ n then some (n, p, d) else (rdBit A d).bind fun q => if q.1 = 1 then rRun A room f (n + min (2 ^ (jj p).toNat) (room - n)) (if 2 ^ (jj p).toNat ≤ room - n then min 31 (p + 1) else p) q.2 else (rdBs A (jj p).toNat 0 q.2).bind fun r => if room ≤ n + r.1 then none else some (n + r.1, p, r.2)
def gsT (Z : Nat → Int) (w y x : Int) (T : Nat → Int) : Int := gsm Z (nA T x y) (nB T x y) (nC T x y) (nD T w x y)
def stR (A : TN) (Z : Nat → Int) (w y x : Int) (X : XR) : Option (Int × XR) :=
  if gsT Z w y x X.2.2.2 = 0 then (rRun A (w - x) 70 0 X.2.2.1 X.1).bind fun u =>
    if x + u.1 < w then (rStp A Z (nA X.2.2.2 x y) (nB X.2.2.2 (x + u.1) y) (64 * y + (x + u.1)).toNat (u.2.2, X.2.1, u.2.1, fil X.2.2.2 (64 * y + x).toNat u.1 (nA X.2.2.2 x y))).bind fun X2 => some (u.1 + 1, X2)
    else some (u.1, u.2.2, X.2.1, u.2.1, fil X.2.2.2 (64 * y + x).toNat u.1 (nA X.2.2.2 x y))
  else (rReg A Z (nA X.2.2.2 x y) (nB X.2.2.2 x y) (nC X.2.2.2 x y) (if gsT Z w y x X.2.2.2 < 0 then 1 else 0) (fA (gsT Z w y x X.2.2.2)).toNat (64 * y + x).toNat X).bind fun X1 => some (1, X1)
def plQ (A : TN) (Z : Nat → Int) (w h : Int) : Nat → Int → Int → XR → Option XR
  | 0, _, _, _ => none
  | n + 1, y, x, X => if h ≤ y then some X else if w ≤ x then plQ A Z w h n (y + 1) 0 X else (stR A Z w y x X).bind fun q => plQ A Z w h n y (x + q.1) q.2
