/-! the steps of a plane -/
theorem rP_b {C : Int} (hC : 1150976 ≤ C) : ∀ (m : Nat) (l p : Int) (W : WT), l < m → (0 ≤ l ∧ l ≤ 64) → (0 ≤ p ∧ p ≤ 22) → wok W → wok (rP m l p W).2.2 ∧ (0 ≤ (rP m l p W).1 ∧ (rP m l p W).1 ≤ l) ∧ (0 ≤ (rP m l p W).2.1 ∧ (rP m l p W).2.1 ≤ 22) ∧ (4096 * (wu (rP m l p W).2.2 + psi (rP m l p W).2.1) + C * (rP m l p W).1 ≤ 4096 * (wu W + psi p) + C * l) ∧ W.2.1 ≤ (rP m l p W).2.2.2.1
  | 0, l, p, W, hl, h0, _, _ => absurd hl (by omega)
  | m + 1, l, p, W, hl, h0, hp, hw => by
    rw [rP]
    by_cases hc : 2 ^ (jj p).toNat ≤ l
    · rw [if_pos hc]
      have hj := jj_bd hp
      have hj7 := jj_7 hp
      have h21 := jj_le6 hp (by omega)
      have hpw : (1 : Int) ≤ 2 ^ (jj p).toNat := Int.pow_pos (by decide)
      have hmin : min 31 (p + 1) = p + 1 := by omega
      rw [hmin]
      obtain ⟨a1, a2, a3⟩ := wBit_u (b := 1) hw (by decide)
      have hs := psi_s (p := p) hp.1
      have hjn := jj_bd (p := p + 1) (by omega)
      obtain ⟨b1, b2, b3, b5, b6⟩ := rP_b hC m (l - 2 ^ (jj p).toNat) (p + 1) (wBit W 1) (by omega) (by omega) (by omega) a1
      have hCm : C * (l - 2 ^ (jj p).toNat) = C * l - C * 2 ^ (jj p).toNat := Int.mul_sub _ _ _
      have hC2 : C * 1 ≤ C * 2 ^ (jj p).toNat := Int.mul_le_mul_of_nonneg_left hpw (by omega)
      exact ⟨b1, ⟨b2.1, by omega⟩, b3, by omega, by omega⟩
    · rw [if_neg hc]
      exact ⟨hw, ⟨h0.1, Int.le_refl _⟩, hp, Int.le_refl _, Int.le_refl _⟩
theorem rN_sp {S : Int → Int} {a near w x : Int} : ∀ (m : Nat) (n : Int), 0 ≤ n → x + n ≤ w → w - x - n < m → n ≤ rN S a near w m x n ∧ x + rN S a near w m x n ≤ w ∧ (x + rN S a near w m x n < w → near < fA (S (x + rN S a near w m x n) - a))
  | 0, n, h0, h1, h2 => absurd h2 (by omega)
  | m + 1, n, h0, h1, h2 => by
    rw [rN]
    by_cases hc : x + n < w ∧ fA (S (x + n) - a) ≤ near
    · rw [if_pos hc]
      obtain ⟨b1, b2, b3⟩ := rN_sp (S := S) (a := a) (near := near) (w := w) (x := x) m (n + 1) (by omega) (by omega) (by omega)
      exact ⟨by omega, b2, b3⟩
    · rw [if_neg hc]
      exact ⟨Int.le_refl _, h1, fun h => by omega⟩
theorem xW_b {x n w l p : Int} {W : WT} (hw : wok W) (hp : 0 ≤ p ∧ p ≤ 22) (hl : 0 ≤ l) : wok (xW x n w (l, p, W)) ∧ W.2.1 ≤ (xW x n w (l, p, W)).2.1 ∧ (x + n < w → wu (xW x n w (l, p, W)) ≤ wu W + 8 + 9 * jj p) ∧ (¬ x + n < w → wu (xW x n w (l, p, W)) ≤ wu W + 9 * l) := by
  have hj := jj_bd hp
  unfold xW
  by_cases h : x + n < w
  · rw [if_pos h]
    obtain ⟨a1, a2, a3⟩ := wBit_u (b := 0) hw (by decide)
    obtain ⟨b1, b2, b3⟩ := wBits_u (jj p).toNat l _ a1
    refine ⟨b1, by show W.2.1 ≤ (wBits (jj p).toNat l (wBit W 0)).2.1; omega, fun _ => ?_, fun h2 => absurd h h2⟩
    show wu (wBits (jj p).toNat l (wBit W 0)) ≤ _
    split at b2 <;> omega
  · rw [if_neg h]
    by_cases h2 : 0 < l
    · rw [if_pos h2]
      obtain ⟨a1, a2, a3⟩ := wBit_u (b := 1) hw (by decide)
      exact ⟨a1, a3, fun h3 => absurd h3 h, fun _ => by show wu (wBit W 1) ≤ _; omega⟩
    · rw [if_neg h2]
      exact ⟨hw, Int.le_refl _, fun h3 => absurd h3 h, fun _ => by show wu W ≤ _; omega⟩
/-- the stops' B is not below 0 -/
def stB (M : MT) : Prop := 0 ≤ M 37 365 ∧ 0 ≤ M 37 366
theorem stB_reg {Z : Nat → Int} {M : MT} {i : Nat} {e : Int} (h : stB M) (hi : i < 365) : stB (mLrn Z M i e) := by
  unfold stB
  rw [(mLrn_ne (show 365 ≠ i by omega)).2.1, (mLrn_ne (show 366 ≠ i by omega)).2.1]
  exact h
theorem stB_stp {Z : Nat → Int} {M : MT} {i : Nat} {e mo : Int} (h : stB M) : stB (mStp Z M i e mo) := by
  have hb : ∀ j : Nat, 0 ≤ M 37 j → 0 ≤ mStp Z M i e mo 37 j := by
    intro j hj
    by_cases e0 : j = i
    · subst e0
      rw [mStp_at.2.2.1]
      unfold hv
      (repeat' split) <;> omega
    · rw [(mStp_ne e0).2.1]
      exact hj
  exact ⟨hb 365 h.1, hb 366 h.2⟩
def gsX (Z : Nat → Int) (w y x : Int) (X : XT) : Int := gsm Z (nA X.2.2.2 x y) (nB X.2.2.2 x y) (nC X.2.2.2 x y) (nD X.2.2.2 w x y)
def rnX (Z : Nat → Int) (w : Int) (S : Int → Int) (y x : Int) (X : XT) : Int := rN S (nA X.2.2.2 x y) (Z 3018) w 65 x 0
def rX (Z : Nat → Int) (w : Int) (S : Int → Int) (y x : Int) (X : XT) : XT := (xW x (rnX Z w S y x X) w (rP 65 (rnX Z w S y x X) X.2.2.1 X.1), X.2.1, (rP 65 (rnX Z w S y x X) X.2.2.1 X.1).2.1, fil X.2.2.2 (64 * y + x).toNat (rnX Z w S y x X) (nA X.2.2.2 x y))
def stN (Z : Nat → Int) (w : Int) (S : Int → Int) (y x : Int) (X : XT) : Int := if gsX Z w y x X = 0 then (if x + rnX Z w S y x X < w then rnX Z w S y x X + 1 else rnX Z w S y x X) else 1
def stX (Z : Nat → Int) (w : Int) (S : Int → Int) (y x : Int) (X : XT) : XT := if gsX Z w y x X = 0 then (if x + rnX Z w S y x X < w then xStp Z (S (x + rnX Z w S y x X)) (nA X.2.2.2 x y) (nB X.2.2.2 (x + rnX Z w S y x X) y) (64 * y + (x + rnX Z w S y x X)).toNat (rX Z w S y x X) else rX Z w S y x X) else xReg Z (S x) (nA X.2.2.2 x y) (nB X.2.2.2 x y) (nC X.2.2.2 x y) (if gsX Z w y x X < 0 then 1 else 0) (fA (gsX Z w y x X)).toNat (64 * y + x).toNat X
def plX (Z : Nat → Int) (w h : Int) (S : Int → Int → Int) : Nat → Int → Int → XT → XT
  | 0, _, _, X => X
  | n + 1, y, x, X => if h ≤ y then X else if w ≤ x then plX Z w h S n (y + 1) 0 X else plX Z w h S n y (x + stN Z w (S y) y x X) (stX Z w (S y) y x X)
def vX (Z : Nat → Int) (w y x : Int) (X : XT) : Prop := pl Z (64 * y + x) X.2.1 ∧ tb w 0 (Z 3017) X.2.2.2 x y ∧ (0 ≤ X.2.2.1 ∧ X.2.2.1 ≤ 22) ∧ wok X.1 ∧ stB X.2.1
def bX (Z : Nat → Int) (X : XT) : Int := 4096 * (wu X.1 + psi X.2.2.1) + pot Z X.2.1
theorem fG_bd {Z : Nat → Int} {v : Int} : -4 ≤ fG Z v ∧ fG Z v ≤ 4 := by
  unfold fG fg
  (repeat' split) <;> omega
theorem nB_bd {T : Nat → Int} {w most x y xx : Int} (h : tb w 0 most T x y) (hm : 0 ≤ most) (hx : 0 ≤ xx ∧ xx < w) (hy : 0 ≤ y) : 0 ≤ nB T xx y ∧ nB T xx y ≤ most := by
  unfold nB
  split
  · have h1 := h xx (y - 1) hx.1 hx.2 (by omega) (by omega)
    rw [Int.zero_add] at h1
    exact h1
  · omega
theorem nA_bd {T : Nat → Int} {w most x y : Int} (h : tb w 0 most T x y) (hm : 0 ≤ most) (hx : 0 ≤ x ∧ x < w) (hy : 0 ≤ y) : 0 ≤ nA T x y ∧ nA T x y ≤ most := by
  unfold nA
  split
  · have h1 := h (x - 1) y (by omega) (by omega) hy (by omega)
    rw [Int.zero_add] at h1
    exact h1
  · exact nB_bd h hm hx hy
theorem tb_fil {T : Nat → Int} {w most x y n v : Int} (h : tb w 0 most T x y) (hw : w ≤ 64) (hx : 0 ≤ x) (hn : 0 ≤ n) (hxn : x + n ≤ w) (hy : 0 ≤ y) (hv : 0 ≤ v ∧ v ≤ most) : tb w 0 most (fil T (64 * y + x).toNat n v) (x + n) y := by
  refine tb_fill h hw (by decide) hx hn hxn hy hv (fun i hi => ?_) (fun i h1 h2 => ?_)
  · unfold fil
    rw [if_neg (by omega)]
  · unfold fil
    rw [if_pos (by omega)]
theorem stX_b {Z : Nat → Int} {w y x : Int} {S : Int → Int} {X : XT} (hz : mv Z) (h : vX Z w y x X) (hx : 0 ≤ x ∧ x < w) (hw : w ≤ 64) (hy : 0 ≤ y ∧ y < 64) (hS : ∀ xx, 0 ≤ xx → xx < w → 0 ≤ S xx ∧ S xx ≤ Z 3017) : vX Z w y (x + stN Z w S y x X) (stX Z w S y x X) ∧ (1 ≤ stN Z w S y x X ∧ x + stN Z w S y x X ≤ w) ∧ bX Z (stX Z w S y x X) ≤ bX Z X + cb Z * stN Z w S y x X ∧ X.1.2.1 ≤ (stX Z w S y x X).1.2.1 := by
  obtain ⟨v1, v2, v3, v4, v5⟩ := h
  have hmv := mv_fx hz
  have hcb := cb_bd (s := Z)
  unfold stN stX
  by_cases hg : gsX Z w y x X = 0
  · rw [if_pos hg, if_pos hg]
    obtain ⟨n0, n1, n2⟩ := rN_sp (S := S) (a := nA X.2.2.2 x y) (near := Z 3018) (w := w) (x := x) 65 0 (by decide) (by omega) (by omega)
    have n0 : 0 ≤ rnX Z w S y x X := n0
    have n1 : x + rnX Z w S y x X ≤ w := n1
    have n2 : x + rnX Z w S y x X < w → Z 3018 < fA (S (x + rnX Z w S y x X) - nA X.2.2.2 x y) := n2
    have ha := nA_bd v2 (by omega) hx hy.1
    have hr := rP_b hcb.1 65 (rnX Z w S y x X) X.2.2.1 X.1 (by omega) (by omega) v3 v4
    have htf := tb_fil (n := rnX Z w S y x X) (v := nA X.2.2.2 x y) v2 hw hx.1 n0 n1 hy.1 ha
    obtain ⟨r1, r2, r3, r4, r5⟩ := hr
    have hxw := xW_b (x := x) (n := rnX Z w S y x X) (w := w) (l := (rP 65 (rnX Z w S y x X) X.2.2.1 X.1).1) (p := (rP 65 (rnX Z w S y x X) X.2.2.1 X.1).2.1) (W := (rP 65 (rnX Z w S y x X) X.2.2.1 X.1).2.2) r1 r3 r2.1
    have hxw : wok (rX Z w S y x X).1 ∧ (rP 65 (rnX Z w S y x X) X.2.2.1 X.1).2.2.2.1 ≤ (rX Z w S y x X).1.2.1 ∧ (x + rnX Z w S y x X < w → wu (rX Z w S y x X).1 ≤ wu (rP 65 (rnX Z w S y x X) X.2.2.1 X.1).2.2 + 8 + 9 * jj (rX Z w S y x X).2.2.1) ∧ (¬ x + rnX Z w S y x X < w → wu (rX Z w S y x X).1 ≤ wu (rP 65 (rnX Z w S y x X) X.2.2.1 X.1).2.2 + 9 * (rP 65 (rnX Z w S y x X) X.2.2.1 X.1).1) := hxw
    have r3 : 0 ≤ (rX Z w S y x X).2.2.1 ∧ (rX Z w S y x X).2.2.1 ≤ 22 := r3
    have r4 : 4096 * (wu (rP 65 (rnX Z w S y x X) X.2.2.1 X.1).2.2 + psi (rX Z w S y x X).2.2.1) + cb Z * (rP 65 (rnX Z w S y x X) X.2.2.1 X.1).1 ≤ 4096 * (wu X.1 + psi X.2.2.1) + cb Z * rnX Z w S y x X := r4
    obtain ⟨w1, w2, w3, w4⟩ := hxw
    have hM : (rX Z w S y x X).2.1 = X.2.1 := rfl
    have hT : (rX Z w S y x X).2.2.2 = fil X.2.2.2 (64 * y + x).toNat (rnX Z w S y x X) (nA X.2.2.2 x y) := rfl
    have hl0 : cb Z * 1 ≤ cb Z * (rP 65 (rnX Z w S y x X) X.2.2.1 X.1).1 ∨ (rP 65 (rnX Z w S y x X) X.2.2.1 X.1).1 = 0 := by
      by_cases e : (rP 65 (rnX Z w S y x X) X.2.2.1 X.1).1 = 0
      · exact Or.inr e
      · exact Or.inl (Int.mul_le_mul_of_nonneg_left (by omega) (by omega))
    have hl1 : 36864 * (rP 65 (rnX Z w S y x X) X.2.2.1 X.1).1 ≤ cb Z * (rP 65 (rnX Z w S y x X) X.2.2.1 X.1).1 := Int.mul_le_mul_of_nonneg_right (by omega) r2.1
    have hl2 : 0 ≤ cb Z * (rP 65 (rnX Z w S y x X) X.2.2.1 X.1).1 := Int.mul_nonneg (by omega) r2.1
    by_cases hs : x + rnX Z w S y x X < w
    · rw [if_pos hs, if_pos hs]
      have hSv := hS (x + rnX Z w S y x X) (by omega) hs
      have hb := nB_bd (xx := x + rnX Z w S y x X) v2 (by omega) (by omega) hy.1
      have hp1 : pl Z (64 * y + x + rnX Z w S y x X) (rX Z w S y x X).2.1 := by
        rw [hM]
        exact pl_mono v1 (by omega)
      have hst := xStp_b (j := (64 * y + (x + rnX Z w S y x X)).toNat) (X := rX Z w S y x X) hz hp1 (by omega) w1 hSv ha hb (n2 hs) r3
      obtain ⟨s1, s2, s3, s4, s5, s6⟩ := hst
      have hTs : (xStp Z (S (x + rnX Z w S y x X)) (nA X.2.2.2 x y) (nB X.2.2.2 (x + rnX Z w S y x X) y) (64 * y + (x + rnX Z w S y x X)).toNat (rX Z w S y x X)).2.2.2 = ua (rX Z w S y x X).2.2.2 (64 * y + (x + rnX Z w S y x X)).toNat (rR Z (gS Z (nA X.2.2.2 x y) (nB X.2.2.2 (x + rnX Z w S y x X) y)) (tS Z (nA X.2.2.2 x y) (nB X.2.2.2 (x + rnX Z w S y x X) y)) (eS Z (nA X.2.2.2 x y) (nB X.2.2.2 (x + rnX Z w S y x X) y) (S (x + rnX Z w S y x X)))) := rfl
      refine ⟨⟨?_, ?_, s5, s2, stB_stp v5⟩, ⟨by omega, by omega⟩, ?_, by omega⟩
      · rw [show 64 * y + (x + (rnX Z w S y x X + 1)) = 64 * y + x + rnX Z w S y x X + 1 by omega]
        exact s1
      · rw [hTs, hT, show x + (rnX Z w S y x X + 1) = x + rnX Z w S y x X + 1 by omega, show 64 * y + (x + rnX Z w S y x X) = 0 + 64 * y + (x + rnX Z w S y x X) by omega]
        exact tb_next htf hw (by decide) (by omega) hy.1 (fW_bd hz)
      · have e1 : cb Z * (rnX Z w S y x X + 1) = cb Z * rnX Z w S y x X + cb Z := by rw [Int.mul_add, Int.mul_one]
        have w5 := w3 hs
        rw [hM] at s3
        unfold bX
        omega
    · rw [if_neg hs, if_neg hs]
      have w5 := w4 hs
      refine ⟨⟨?_, htf, r3, w1, v5⟩, ⟨by omega, by omega⟩, ?_, by omega⟩
      · rw [hM]
        exact pl_mono v1 (by omega)
      · unfold bX
        rw [hM]
        omega
  · rw [if_neg hg, if_neg hg]
    have hSv := hS x hx.1 hx.2
    have hgb : -364 ≤ gsX Z w y x X ∧ gsX Z w y x X ≤ 364 := by
      unfold gsX gsm
      have g1 := fG_bd (Z := Z) (v := nD X.2.2.2 w x y - nB X.2.2.2 x y)
      have g2 := fG_bd (Z := Z) (v := nB X.2.2.2 x y - nC X.2.2.2 x y)
      have g3 := fG_bd (Z := Z) (v := nC X.2.2.2 x y - nA X.2.2.2 x y)
      omega
    have hfa : 0 ≤ fA (gsX Z w y x X) ∧ fA (gsX Z w y x X) ≤ 364 := by
      unfold fA
      split <;> omega
    have hr := xReg_b (a := nA X.2.2.2 x y) (b := nB X.2.2.2 x y) (c := nC X.2.2.2 x y) (u := if gsX Z w y x X < 0 then 1 else 0) (i := (fA (gsX Z w y x X)).toNat) (j := (64 * y + x).toNat) hz v1 (by omega) v4 (by omega) hSv
    obtain ⟨s1, s2, s3, s4⟩ := hr
    generalize hXX : xReg Z (S x) (nA X.2.2.2 x y) (nB X.2.2.2 x y) (nC X.2.2.2 x y) (if gsX Z w y x X < 0 then 1 else 0) (fA (gsX Z w y x X)).toNat (64 * y + x).toNat X = X1 at s1 s2 s3 s4 ⊢
    have hP : X1.2.2.1 = X.2.2.1 := by rw [← hXX]; rfl
    have hTs : ∃ v, X1.2.2.2 = ua X.2.2.2 (64 * y + x).toNat v ∧ 0 ≤ v ∧ v ≤ Z 3017 := by
      rw [← hXX]
      exact ⟨_, rfl, fW_bd hz⟩
    have hBs : stB X1.2.1 := by
      rw [← hXX]
      exact stB_reg v5 (by omega)
    obtain ⟨v, hv1, hv2⟩ := hTs
    refine ⟨⟨?_, ?_, by rw [hP]; exact v3, s2, hBs⟩, ⟨by decide, by omega⟩, ?_, s4⟩
    · rw [show 64 * y + (x + 1) = 64 * y + x + 1 by omega]
      exact s1
    · rw [hv1, show 64 * y + x = 0 + 64 * y + x by omega]
      exact tb_next v2 hw (by decide) hx hy.1 hv2
    · unfold bX
      rw [hP, Int.mul_one]
      omega
def ruX (Z : Nat → Int) (w : Int) (S : Int → Int) (y x : Int) (X : XT) : XT := if x + rnX Z w S y x X < w then xStp Z (S (x + rnX Z w S y x X)) (nA X.2.2.2 x y) (nB X.2.2.2 (x + rnX Z w S y x X) y) (64 * y + (x + rnX Z w S y x X)).toNat (rX Z w S y x X) else rX Z w S y x X
def ruN (Z : Nat → Int) (w : Int) (S : Int → Int) (y x : Int) (X : XT) : Int := if x + rnX Z w S y x X < w then rnX Z w S y x X + 1 else rnX Z w S y x X
theorem tb_tr {T f : Nat → Int} {w base most x y : Int} (h : trl T base w x y f) (hb : tb w 0 most T x y) : tb w base most f x y := by
  intro xx yy h1 h2 h3 h4
  rw [h xx yy h1 h2 h3 h4]
  have h5 := hb xx yy h1 h2 h3 h4
  rw [Int.zero_add] at h5
  exact h5
theorem tr_st {T f : Nat → Int} {w base x y v : Int} (h : trl T base w x y f) (hw : w ≤ 64) (hb : 0 ≤ base) (hx : 0 ≤ x ∧ x < w) (hy : 0 ≤ y) : trl (ua T (64 * y + x).toNat v) base w (x + 1) y (ua f (base + 64 * y + x).toNat v) := by
  intro xx yy h1 h2 h3 h4
  by_cases e : yy = y ∧ xx = x
  · obtain ⟨rfl, rfl⟩ := e
    rw [ua_eq, ua_eq]
  · rw [ua_ne (by omega), ua_ne (by omega)]
    exact h xx yy h1 h2 h3 (by omega)
theorem tr_fl {T f : Nat → Int} {w base x y v n : Int} (h : trl T base w x y f) (hw : w ≤ 64) (hb : 0 ≤ base) (hx : 0 ≤ x) (hn : 0 ≤ n) (hxn : x + n ≤ w) (hy : 0 ≤ y) : trl (fil T (64 * y + x).toNat n v) base w (x + n) y (fil f (base + 64 * y + x).toNat n v) := by
  intro xx yy h1 h2 h3 h4
  unfold fil
  by_cases e : yy = y ∧ x ≤ xx
  · rw [if_pos (by omega), if_pos (by omega)]
  · rw [if_neg (by omega), if_neg (by omega)]
    exact h xx yy h1 h2 h3 (by omega)
theorem fil_of {f g : Nat → Int} {a n v : Int} (ha : 0 ≤ a) (h1 : ∀ i : Nat, (i : Int) < a ∨ a + n ≤ i → g i = f i) (h2 : ∀ i : Nat, a ≤ i → (i : Int) < a + n → g i = v) : g = fil f a.toNat n v := by
  funext i
  unfold fil
  by_cases e : a ≤ i ∧ (i : Int) < a + n
  · rw [if_pos (by omega)]
    exact h2 i e.1 e.2
  · rw [if_neg (by omega)]
    exact h1 i (by omega)
theorem gsX_bd {Z : Nat → Int} {w y x : Int} {X : XT} : -364 ≤ gsX Z w y x X ∧ gsX Z w y x X ≤ 364 := by
  unfold gsX gsm
  have g1 := fG_bd (Z := Z) (v := nD X.2.2.2 w x y - nB X.2.2.2 x y)
  have g2 := fG_bd (Z := Z) (v := nB X.2.2.2 x y - nC X.2.2.2 x y)
  have g3 := fG_bd (Z := Z) (v := nC X.2.2.2 x y - nA X.2.2.2 x y)
  omega
theorem nB_fil {T : Nat → Int} {x y n v xx : Int} (hy : 0 ≤ x ∧ 0 ≤ xx ∧ xx ≤ 63) (hy2 : 0 ≤ y) : nB (fil T (64 * y + x).toNat n v) xx y = nB T xx y := by
  unfold nB
  split
  · unfold fil
    rw [if_neg (by omega)]
  · rfl
/-- a stop's number is not below 0 -/
theorem stX_n {Z : Nat → Int} {w y x : Int} {S : Int → Int} {X : XT} (hz : mv Z) (h : vX Z w y x X) (hx : 0 ≤ x ∧ x < w) (hw : w ≤ 64) (hy : 0 ≤ y ∧ y < 64) (hS : ∀ xx, 0 ≤ xx → xx < w → 0 ≤ S xx ∧ S xx ≤ Z 3017) (hg : gsX Z w y x X = 0) (hs : x + rnX Z w S y x X < w) : 0 ≤ nS Z (nA X.2.2.2 x y) (nB X.2.2.2 (x + rnX Z w S y x X) y) (S (x + rnX Z w S y x X)) X.2.1 ∧ (0 ≤ gS Z (nA X.2.2.2 x y) (nB X.2.2.2 (x + rnX Z w S y x X) y) ∧ gS Z (nA X.2.2.2 x y) (nB X.2.2.2 (x + rnX Z w S y x X) y) ≤ Z 3017) := by
  obtain ⟨v1, v2, v3, v4, _⟩ := h
  have hmv := mv_fx hz
  obtain ⟨n0, n1, n2⟩ := rN_sp (S := S) (a := nA X.2.2.2 x y) (near := Z 3018) (w := w) (x := x) 65 0 (by decide) (by omega) (by omega)
  have n0 : 0 ≤ rnX Z w S y x X := n0
  have n2 : x + rnX Z w S y x X < w → Z 3018 < fA (S (x + rnX Z w S y x X) - nA X.2.2.2 x y) := n2
  have ha := nA_bd v2 (by omega) hx hy.1
  have hb := nB_bd (xx := x + rnX Z w S y x X) v2 (by omega) (by omega) hy.1
  have hst := xStp_b (j := 0) hz v1 (by omega) v4 (hS _ (by omega) hs) ha hb (n2 hs) v3
  refine ⟨hst.2.2.2.2.2, ?_⟩
  unfold gS
  split <;> omega
