/-! the class reads a plane, exactly -/
theorem fk_w9 {n1 : Nat} {p p1 : Nat → Nat} {c c1 : Nat → Nat → Int} {K K1 : List Nat} (h : fk p c n1 p1 c1 K) (hs : ∀ x ∈ K, x ∈ K1) : fk p c n1 p1 c1 K1 := ⟨h.1, fun k hk hn => h.2 k hk (fun e => hn (hs k e))⟩
theorem ke_16 {Z : Nat → Int} {M : MT} {t : Int} {i : Nat} (hz : mv Z) (hp : pl Z t M) (ht : t ≤ 4096) (hi : i < 367) : 0 ≤ ke (M 36 i) (M 39 i) ∧ ke (M 36 i) (M 39 i) ≤ 16 := by
  have hb := pl_bd hz ht (hp i hi)
  have hs := ke_sp (a := M 36 i) (n := M 39 i) hb.2.1.1 (by omega)
  have hk := k_le_q (k := ke (M 36 i) (M 39 i)) (S := M 36 i) hz (hp i hi) hs.1.1 (by omega) hs.2.2
  omega
theorem kS_16 {Z : Nat → Int} {M : MT} {t u : Int} (hz : mv Z) (hp : pl Z t M) (ht : t ≤ 4096) (hu : u = 0 ∨ u = 1) : 0 ≤ kS M u ∧ kS M u ≤ 16 := by
  have hi : (365 + u).toNat < 367 := by omega
  have hb := pl_bd hz ht (hp _ hi)
  unfold kS
  generalize hS : M 36 (365 + u).toNat + (if u = 1 then M 39 (365 + u).toNat / 2 else 0) = S
  have h1 : S ≤ 536870912 ∧ 2 * S ≤ 2 * M 36 (365 + u).toNat + M 39 (365 + u).toNat := by
    rw [← hS]
    split <;> omega
  have hs := ke_sp (a := S) (n := M 39 (365 + u).toNat) hb.2.1.1 h1.1
  have hk := k_le_q (k := ke S (M 39 (365 + u).toNat)) (S := S) hz (hp _ hi) hs.1.1 h1.2 hs.2.2
  omega
section ST5
variable {A : TN} {Z : Nat → Int} {w y x r p : Int} {d : RDT} {X X2 : XR}
theorem stR_q (hg : gsT Z w y x X.2.2.2 = 0) (hu : rRun A (w - x) 70 0 X.2.2.1 X.1 = some (r, p, d)) (h : ¬ x + r < w) : stR A Z w y x X = some (r, d, X.2.1, p, fil X.2.2.2 (64 * y + x).toNat r (nA X.2.2.2 x y)) := by
  unfold stR
  rw [if_pos hg, hu, bd_s]
  exact if_neg h
theorem stR_un (hg : gsT Z w y x X.2.2.2 = 0) (hu : rRun A (w - x) 70 0 X.2.2.1 X.1 = none) : stR A Z w y x X = none := by
  unfold stR
  rw [if_pos hg, hu, bd_n]
theorem stR_p (hg : gsT Z w y x X.2.2.2 = 0) (hu : rRun A (w - x) 70 0 X.2.2.1 X.1 = some (r, p, d)) (h : x + r < w) (hs : rStp A Z (nA X.2.2.2 x y) (nB X.2.2.2 (x + r) y) (64 * y + (x + r)).toNat (d, X.2.1, p, fil X.2.2.2 (64 * y + x).toNat r (nA X.2.2.2 x y)) = some X2) : stR A Z w y x X = some (r + 1, X2) := by
  unfold stR
  rw [if_pos hg, hu, bd_s]
  refine (if_pos h).trans ?_
  show (rStp A Z (nA X.2.2.2 x y) (nB X.2.2.2 (x + r) y) (64 * y + (x + r)).toNat (d, X.2.1, p, fil X.2.2.2 (64 * y + x).toNat r (nA X.2.2.2 x y))).bind (fun X2 => some (r + 1, X2)) = _
  rw [hs, bd_s]
theorem stR_pn (hg : gsT Z w y x X.2.2.2 = 0) (hu : rRun A (w - x) 70 0 X.2.2.1 X.1 = some (r, p, d)) (h : x + r < w) (hs : rStp A Z (nA X.2.2.2 x y) (nB X.2.2.2 (x + r) y) (64 * y + (x + r)).toNat (d, X.2.1, p, fil X.2.2.2 (64 * y + x).toNat r (nA X.2.2.2 x y)) = none) : stR A Z w y x X = none := by
  unfold stR
  rw [if_pos hg, hu, bd_s]
  refine (if_pos h).trans ?_
  show (rStp A Z (nA X.2.2.2 x y) (nB X.2.2.2 (x + r) y) (64 * y + (x + r)).toNat (d, X.2.1, p, fil X.2.2.2 (64 * y + x).toNat r (nA X.2.2.2 x y))).bind (fun X2 => some (r + 1, X2)) = _
  rw [hs, bd_n]
theorem stR_T {n : Int} (hv : vQ Z w y x X) (hx : 0 ≤ x ∧ x < w) (hw : w ≤ 64) (hy : 0 ≤ y) (hs : stR A Z w y x X = some (n, X2)) : ∀ i : Nat, (i : Int) < 64 * y → X2.2.2.2 i = X.2.2.2 i := by
  intro i hi
  have hf : ∀ n v : Int, fil X.2.2.2 (64 * y + x).toNat n v i = X.2.2.2 i := by
    intro n v
    unfold fil
    rw [if_neg (by omega)]
  unfold stR at hs
  by_cases hg : gsT Z w y x X.2.2.2 = 0
  · rw [if_pos hg] at hs
    obtain ⟨u, hu, h2⟩ := bd_so hs
    have hrb := rRun_b (A := A) (ro := w - x) (by omega) 70 0 X.2.2.1 X.1 u (by omega) hv.2.2.1 hu
    by_cases h3 : x + u.1 < w
    · rw [if_pos h3] at h2
      obtain ⟨X3, h4, h5⟩ := bd_so h2
      injection h5 with h5
      injection h5 with h5 h6
      obtain ⟨e, mo, v, s1, s2, s3, s4⟩ := rStp_b h4
      rw [← h6, s4, ua_ne (by omega)]
      exact hf _ _
    · rw [if_neg h3] at h2
      injection h2 with h2
      injection h2 with h5 h6
      rw [← h6]
      exact hf _ _
  · rw [if_neg hg] at hs
    obtain ⟨X1, h4, h5⟩ := bd_so hs
    injection h5 with h5
    injection h5 with h5 h6
    obtain ⟨e, v, s1, s2, s3, s4⟩ := rReg_b (t := 0) h4
    rw [← h6, s4, ua_ne (by omega)]
end ST5
theorem gS_bd {Z : Nat → Int} {a b U : Int} (ha : 0 ≤ a ∧ a ≤ U) (hb : 0 ≤ b ∧ b ≤ U) : 0 ≤ gS Z a b ∧ gS Z a b ≤ U := by
  unfold gS
  split
  · exact ha
  · exact hb
/-- the samples of b's plane, rows below y -/
def rSm (b w y : Int) (T f : Nat → Int) : Prop := ∀ yy xx : Int, 0 ≤ yy → yy < y → 0 ≤ xx → xx < w → f ((b + yy) * w + xx).toNat = T (64 * yy + xx).toNat
/-- what stands outside of them -/
def rOt (b w y : Int) (f f0 : Nat → Int) : Prop := ∀ i : Nat, ((i : Int) < b * w ∨ (b + y) * w ≤ i) → f i = f0 i
theorem rSm_s {b w y : Int} {T T2 f : Nat → Int} (h : rSm b w y T f) (hT : ∀ i : Nat, (i : Int) < 64 * y → T2 i = T i) (hw : w ≤ 64) : rSm b w y T2 f := fun yy xx h1 h2 h3 h4 => by rw [h yy xx h1 h2 h3 h4, hT _ (by omega)]
theorem rSm_r {b w y rs ww : Int} {T fh fa f f2 : Nat → Int} (h : rSm b w y T f) (hh : hrm (T, w, w, y) fh fa) (hrs : rs = (b + y) * w) (hw2 : ww = w) (hf : f2 = va_cpy fh f 1 rs.toNat ww.toNat) (hb : 0 ≤ b ∧ 0 ≤ y ∧ 1 ≤ w ∧ w ≤ 64) : rSm b w (y + 1) T f2 := by
  subst hw2
  subst hf
  obtain ⟨_, hh2, _⟩ := hh
  have hh2 : ∀ i : Int, 0 ≤ i → i < ww → fh (i + 1).toNat = T (64 * y + i).toNat := hh2
  intro yy xx h1 h2 h3 h4
  have hp : 0 ≤ (b + yy) * ww := Int.mul_nonneg (by omega) (by omega)
  unfold va_cpy
  by_cases e : yy = y
  · subst e
    rw [← hrs] at hp ⊢
    rw [if_pos (by omega), show 1 + ((rs + xx).toNat - rs.toNat) = (xx + 1).toNat by omega]
    exact hh2 xx h3 h4
  · have h5 : (b + yy + 1) * ww ≤ (b + y) * ww := Int.mul_le_mul_of_nonneg_right (by omega) (by omega)
    rw [Int.add_mul (b + yy) 1 ww, Int.one_mul, ← hrs] at h5
    rw [if_neg (by omega)]
    exact h yy xx h1 (by omega) h3 h4
theorem rOt_r {b w y rs ww : Int} {fh f f2 f0 : Nat → Int} (h : rOt b w y f f0) (hrs : rs = (b + y) * w) (hw2 : ww = w) (hf : f2 = va_cpy fh f 1 rs.toNat ww.toNat) (hb : 0 ≤ b ∧ 0 ≤ y ∧ 1 ≤ w ∧ w ≤ 64) : rOt b w (y + 1) f2 f0 := by
  subst hw2
  subst hf
  intro i hi
  have h5 : b * ww ≤ (b + y) * ww := Int.mul_le_mul_of_nonneg_right (by omega) (by omega)
  have h6 : (b + (y + 1)) * ww = (b + y) * ww + ww := by rw [← Int.add_assoc, Int.add_mul (b + y) 1 ww, Int.one_mul]
  rw [h6] at hi
  have h7 : 0 ≤ b * ww := Int.mul_nonneg hb.1 (by omega)
  unfold va_cpy
  rw [if_neg (by omega)]
  exact h i (by omega)
/-- where a plane's reading stands, in the class's words: within a row; between rows -/
def rdC (A : TN) (Z : Nat → Int) (h : Int) (R : Option XR) (y x w pc : Int) (d : RDT) (fm fh fa fs : Nat → Int) (b : Int) : Prop := ∃ X : XR, plJ A Z w h R y (min x w) X ∧ X.1 = d ∧ mrc X.2.1 fm ∧ pc = X.2.2.1 ∧ hrm (X.2.2.2, w, min x w, y) fh fa ∧ rSm b w y X.2.2.2 fs
def rdO (A : TN) (Z : Nat → Int) (h : Int) (R : Option XR) (y w pc : Int) (d : RDT) (fm fh fs f0 : Nat → Int) (b : Int) : Prop := ∃ X : XR, plJ A Z w h R y 0 X ∧ X.1 = d ∧ mrc X.2.1 fm ∧ pc = X.2.2.1 ∧ hE X.2.2.2 w y fh ∧ rSm b w y X.2.2.2 fs ∧ rOt b w y fs f0
