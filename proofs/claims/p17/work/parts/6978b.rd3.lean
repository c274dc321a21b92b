/-! reading a plane as numbers alone: what stays -/
theorem bd_so {α β : Type} {o : Option α} {f : α → Option β} {b : β} (h : o.bind f = some b) : ∃ a, o = some a ∧ f a = some b := by
  cases o with
  | none => cases h
  | some a => exact ⟨a, rfl, h⟩
theorem rdBit_0 {A : TN} {d : RDT} {q : Int × RDT} (h : rdBit A d = some q) : 0 ≤ q.1 ∧ q.1 ≤ 1 := by
  obtain ⟨e, _, h2⟩ := bd_so h
  injection h2 with h2
  rw [← h2]
  show 0 ≤ e.2.1 / 2 ^ (e.2.2 - 1).toNat % 2 ∧ e.2.1 / 2 ^ (e.2.2 - 1).toNat % 2 ≤ 1
  omega
theorem rdBs_0 {A : TN} : ∀ (n : Nat) (v : Int) (d : RDT) (q : Int × RDT), 0 ≤ v → rdBs A n v d = some q → 0 ≤ q.1
  | 0, v, d, q, hv, h => by
    rw [rdBs] at h
    injection h with h
    rw [← h]
    exact hv
  | n + 1, v, d, q, hv, h => by
    rw [rdBs] at h
    obtain ⟨b, hb, h2⟩ := bd_so h
    have h0 := rdBit_0 hb
    exact rdBs_0 n _ _ _ (by omega) h2
theorem rdZ_0 {A : TN} {zm : Int} : ∀ (m : Nat) (z : Int) (d : RDT) (q : Int × RDT), 0 ≤ z → rdZ A zm m z d = some q → 0 ≤ q.1
  | 0, z, d, q, hz, h => by
    rw [rdZ] at h
    cases h
  | m + 1, z, d, q, hz, h => by
    rw [rdZ] at h
    obtain ⟨b, hb, h2⟩ := bd_so h
    by_cases h0 : b.1 = 0
    · rw [if_pos h0] at h2
      by_cases h1 : zm ≤ z
      · rw [if_pos h1] at h2
        cases h2
      · rw [if_neg h1] at h2
        exact rdZ_0 m _ _ _ (by omega) h2
    · rw [if_neg h0] at h2
      injection h2 with h2
      rw [← h2]
      exact hz
theorem rdNum_0 {A : TN} {k zm wb : Int} {d : RDT} {q : Int × RDT} (h : rdNum A k zm wb d = some q) : 0 ≤ q.1 := by
  obtain ⟨z, hz, h2⟩ := bd_so h
  have h0 := rdZ_0 70 0 _ _ (Int.le_refl 0) hz
  by_cases h1 : z.1 < zm
  · rw [if_pos h1] at h2
    obtain ⟨r, hr, h3⟩ := bd_so h2
    have h4 := rdBs_0 _ 0 _ _ (Int.le_refl 0) hr
    injection h3 with h3
    rw [← h3]
    have h5 : 0 ≤ z.1 * 2 ^ k.toNat := Int.mul_nonneg h0 (Int.le_of_lt (Int.pow_pos (by decide)))
    show 0 ≤ z.1 * 2 ^ k.toNat + r.1
    omega
  · rw [if_neg h1] at h2
    obtain ⟨r, hr, h3⟩ := bd_so h2
    have h4 := rdBs_0 _ 0 _ _ (Int.le_refl 0) hr
    injection h3 with h3
    rw [← h3]
    show 0 ≤ 1 + r.1
    omega
theorem rRun_b {A : TN} {ro : Int} (hro : ro ≤ 64) : ∀ (f : Nat) (n p : Int) (d : RDT) (u : Int × Int × RDT), (0 ≤ n ∧ n ≤ ro) → (0 ≤ p ∧ p ≤ 22) → rRun A ro f n p d = some u → (n ≤ u.1 ∧ u.1 ≤ ro) ∧ (0 ≤ u.2.1 ∧ u.2.1 ≤ 22)
  | 0, n, p, d, u, hn, hp, h => by
    rw [rRun] at h
    cases h
  | f + 1, n, p, d, u, hn, hp, h => by
    rw [rRun] at h
    by_cases h1 : ro ≤ n
    · rw [if_pos h1] at h
      injection h with h
      rw [← h]
      exact ⟨⟨Int.le_refl _, hn.2⟩, hp⟩
    · rw [if_neg h1] at h
      obtain ⟨q, hq, h2⟩ := bd_so h
      have hp1 : (1 : Int) ≤ 2 ^ (jj p).toNat := Int.pow_pos (by decide)
      by_cases h3 : q.1 = 1
      · rw [if_pos h3] at h2
        have h7 := jj_7 hp
        have hjb := jj_bd hp
        have hpp : 0 ≤ (if 2 ^ (jj p).toNat ≤ ro - n then min 31 (p + 1) else p) ∧ (if 2 ^ (jj p).toNat ≤ ro - n then min 31 (p + 1) else p) ≤ 22 := by
          by_cases h4 : (2 : Int) ^ (jj p).toNat ≤ ro - n
          · rw [if_pos h4]
            have h5 := jj_le6 hp (by omega)
            omega
          · rw [if_neg h4]
            exact hp
        have h6 := rRun_b hro f _ _ _ _ (by omega) hpp h2
        exact ⟨⟨by omega, h6.1.2⟩, h6.2⟩
      · rw [if_neg h3] at h2
        obtain ⟨r, hr, h4⟩ := bd_so h2
        have h5 := rdBs_0 _ 0 _ _ (Int.le_refl 0) hr
        by_cases h6 : ro ≤ n + r.1
        · rw [if_pos h6] at h4
          cases h4
        · rw [if_neg h6] at h4
          injection h4 with h4
          rw [← h4]
          exact ⟨⟨by show n ≤ n + r.1; omega, by show n + r.1 ≤ ro; omega⟩, hp⟩
def vQ (Z : Nat → Int) (w y x : Int) (X : XR) : Prop := pl Z (64 * y + x) X.2.1 ∧ tb w 0 (Z 3017) X.2.2.2 x y ∧ (0 ≤ X.2.2.1 ∧ X.2.2.1 ≤ 22) ∧ stB X.2.1
theorem mLrn_pl {Z : Nat → Int} {M : MT} {i : Nat} {e t : Int} (hz : mv Z) (hp : pl Z t M) (ht : 0 ≤ t ∧ t ≤ 4095) (hi : i < 365) (he : -(Z 3024 / 2) ≤ e ∧ e ≤ (Z 3024 - 1) / 2) : pl Z (t + 1) (mLrn Z M i e) := by
  have hx := mv_fx hz
  have hpi := hp i (by omega)
  have hb := pl_bd hz (by omega) hpi
  have hE : 2 * fA e ≤ Z 3024 + 1 := by
    unfold fA
    split <;> omega
  obtain ⟨l1, l2, l3, l4⟩ := mLrn_at (Z := Z) (M := M) (i := i) (e := e)
  refine pl_next (s := Z) (s' := Z) (E := fA e) hz ht.1 hp (by omega) rfl fA_0 hE l1 l2 ?_ ?_ (fun j hj => (mLrn_ne hj).1) (fun j hj => (mLrn_ne hj).2.1) (fun j hj => (mLrn_ne hj).2.2.1) (fun j hj => (mLrn_ne hj).2.2.2)
  · rw [l3]
    have hN := hpi.2.2.2.1
    unfold lB hv
    (repeat' split) <;> omega
  · rw [l4]
    unfold lC
    (repeat' split) <;> omega
theorem eT_E {m s o R : Int} (hm : 0 ≤ m) (hs : s = 0 ∨ s = 1) (he : -(R / 2) ≤ eT m s o ∧ eT m s o ≤ (R - 1) / 2) : 0 ≤ (m + 1 - s) / 2 ∧ 2 * ((m + 1 - s) / 2) ≤ R + 1 := by
  unfold eT at he
  split at he <;> omega
theorem mStp_pl {Z : Nat → Int} {M : MT} {i : Nat} {e mo t : Int} (hz : mv Z) (hp : pl Z t M) (ht : 0 ≤ t ∧ t ≤ 4095) (hi : i < 367) (hE : 0 ≤ mo ∧ 2 * mo ≤ Z 3024 + 1) : pl Z (t + 1) (mStp Z M i e mo) := by
  have hx := mv_fx hz
  have hpi := hp i hi
  have hb := pl_bd hz (by omega) hpi
  obtain ⟨l1, l2, l3, l4⟩ := mStp_at (Z := Z) (M := M) (i := i) (e := e) (mo := mo)
  refine pl_next (s := Z) (s' := Z) (E := mo) hz ht.1 hp hi rfl hE.1 hE.2 l1 l2 ?_ ?_ (fun j hj => (mStp_ne hj).1) (fun j hj => (mStp_ne hj).2.1) (fun j hj => (mStp_ne hj).2.2.1) (fun j hj => (mStp_ne hj).2.2.2)
  · rw [l3]
    have hN := hpi.2.2.2.2.2.1
    unfold hv
    (repeat' split) <;> omega
  · rw [l4]
    omega
theorem sS_01 {Z : Nat → Int} {a b : Int} : sS Z a b = 0 ∨ sS Z a b = 1 := by
  unfold sS
  split
  · exact Or.inr rfl
  · exact Or.inl rfl
theorem gsT_bd {Z : Nat → Int} {w y x : Int} {T : Nat → Int} : -364 ≤ gsT Z w y x T ∧ gsT Z w y x T ≤ 364 := by
  unfold gsT gsm
  have g1 := fG_bd (Z := Z) (v := nD T w x y - nB T x y)
  have g2 := fG_bd (Z := Z) (v := nB T x y - nC T x y)
  have g3 := fG_bd (Z := Z) (v := nC T x y - nA T x y)
  omega
theorem rReg_b {A : TN} {Z : Nat → Int} {a b c u t : Int} {i j : Nat} {X X2 : XR} (h : rReg A Z a b c u i j X = some X2) : ∃ e v : Int, (-(Z 3024 / 2) ≤ e ∧ e ≤ (Z 3024 - 1) / 2) ∧ X2.2.1 = mLrn Z X.2.1 i e ∧ X2.2.2.1 = X.2.2.1 ∧ X2.2.2.2 = ua X.2.2.2 j (fW Z v) := by
  obtain ⟨q, _, h2⟩ := bd_so h
  by_cases h0 : -(Z 3024 / 2) ≤ eM q.1 (oR Z i X.2.1) ∧ eM q.1 (oR Z i X.2.1) ≤ (Z 3024 - 1) / 2
  · rw [if_pos h0] at h2
    injection h2 with h2
    rw [← h2]
    exact ⟨_, _, h0, rfl, rfl, rfl⟩
  · rw [if_neg h0] at h2
    cases h2
theorem rStp_b {A : TN} {Z : Nat → Int} {a b : Int} {j : Nat} {X X2 : XR} (h : rStp A Z a b j X = some X2) : ∃ e mo v : Int, (0 ≤ mo ∧ 2 * mo ≤ Z 3024 + 1) ∧ X2.2.1 = mStp Z X.2.1 (365 + sS Z a b).toNat e mo ∧ X2.2.2.1 = (if 0 < X.2.2.1 then X.2.2.1 - 1 else 0) ∧ X2.2.2.2 = ua X.2.2.2 j (fW Z v) := by
  obtain ⟨q, hq, h2⟩ := bd_so h
  have hq0 := rdNum_0 hq
  by_cases h0 : -(Z 3024 / 2) ≤ eT q.1 (sS Z a b) (oS X.2.1 (sS Z a b)) ∧ eT q.1 (sS Z a b) (oS X.2.1 (sS Z a b)) ≤ (Z 3024 - 1) / 2
  · rw [if_pos h0] at h2
    injection h2 with h2
    rw [← h2]
    exact ⟨_, _, _, eT_E hq0 sS_01 h0, rfl, rfl, rfl⟩
  · rw [if_neg h0] at h2
    cases h2
theorem stR_b {A : TN} {Z : Nat → Int} {w y x n : Int} {X X2 : XR} (hz : mv Z) (h : vQ Z w y x X) (hx : 0 ≤ x ∧ x < w) (hw : w ≤ 64) (hy : 0 ≤ y ∧ y < 64) (hs : stR A Z w y x X = some (n, X2)) : vQ Z w y (x + n) X2 ∧ (1 ≤ n ∧ x + n ≤ w) := by
  obtain ⟨v1, v2, v3, v5⟩ := h
  have hmv := mv_fx hz
  unfold stR at hs
  by_cases hg : gsT Z w y x X.2.2.2 = 0
  · rw [if_pos hg] at hs
    obtain ⟨u, hu, h2⟩ := bd_so hs
    have hrb := rRun_b (A := A) (ro := w - x) (by omega) 70 0 X.2.2.1 X.1 u (by omega) v3 hu
    have ha := nA_bd v2 (by omega) hx hy.1
    have htf := tb_fil (n := u.1) (v := nA X.2.2.2 x y) v2 hw hx.1 hrb.1.1 (by omega) hy.1 ha
    by_cases h3 : x + u.1 < w
    · rw [if_pos h3] at h2
      obtain ⟨X3, h4, h5⟩ := bd_so h2
      injection h5 with h5
      injection h5 with h5 h6
      obtain ⟨e, mo, v, s1, s2, s3, s4⟩ := rStp_b h4
      rw [← h5, ← h6]
      refine ⟨⟨?_, ?_, ?_, ?_⟩, by omega, by omega⟩
      · rw [s2, show 64 * y + (x + (u.1 + 1)) = 64 * y + x + u.1 + 1 by omega]
        exact mStp_pl hz (pl_mono v1 (by omega)) (by omega) (by have h9 := sS_01 (Z := Z) (a := nA X.2.2.2 x y) (b := nB X.2.2.2 (x + u.1) y); omega) s1
      · rw [s4, show x + (u.1 + 1) = x + u.1 + 1 by omega, show 64 * y + (x + u.1) = 0 + 64 * y + (x + u.1) by omega]
        exact tb_next htf hw (by decide) (by omega) hy.1 (fW_bd hz)
      · rw [s3]
        show 0 ≤ (if 0 < u.2.1 then u.2.1 - 1 else 0) ∧ (if 0 < u.2.1 then u.2.1 - 1 else 0) ≤ 22
        have h8 := hrb.2
        split <;> omega
      · rw [s2]
        exact stB_stp v5
    · rw [if_neg h3] at h2
      injection h2 with h2
      injection h2 with h5 h6
      rw [← h5, ← h6]
      exact ⟨⟨pl_mono v1 (by omega), htf, hrb.2, v5⟩, by omega, by omega⟩
  · rw [if_neg hg] at hs
    obtain ⟨X1, h4, h5⟩ := bd_so hs
    injection h5 with h5
    injection h5 with h5 h6
    obtain ⟨e, v, s1, s2, s3, s4⟩ := rReg_b (t := 0) h4
    have hgb := gsT_bd (Z := Z) (w := w) (y := y) (x := x) (T := X.2.2.2)
    have hfa : 0 ≤ fA (gsT Z w y x X.2.2.2) ∧ fA (gsT Z w y x X.2.2.2) ≤ 364 := by
      unfold fA
      split <;> omega
    rw [← h5, ← h6]
    refine ⟨⟨?_, ?_, ?_, ?_⟩, by decide, by omega⟩
    · rw [s2, show 64 * y + (x + 1) = 64 * y + x + 1 by omega]
      exact mLrn_pl hz v1 (by omega) (by omega) s1
    · rw [s4, show 64 * y + x = 0 + 64 * y + x by omega]
      exact tb_next v2 hw (by decide) hx hy.1 (fW_bd hz)
    · rw [s3]
      exact v3
    · rw [s2]
      exact stB_reg v5 (by omega)
/-- where a plane's reading stands -/
def plJ (A : TN) (Z : Nat → Int) (w h : Int) (R : Option XR) (y x : Int) (X : XR) : Prop := vQ Z w y x X ∧ ∃ n : Nat, (h - y) * 66 + (w - x) + 1 ≤ n ∧ plQ A Z w h n y x X = R
section PLJ
variable {A : TN} {Z : Nat → Int} {w h y x k : Int} {R : Option XR} {X X2 : XR}
theorem plJ_s (hz : mv Z) (hI : plJ A Z w h R y x X) (hx : 0 ≤ x ∧ x < w) (hw : w ≤ 64) (hy : 0 ≤ y ∧ y < h) (hh : h ≤ 64) (hs : stR A Z w y x X = some (k, X2)) : plJ A Z w h R y (x + k) X2 ∧ (1 ≤ k ∧ x + k ≤ w) := by
  obtain ⟨h1, n, h2, h3⟩ := hI
  have hb := stR_b hz h1 hx hw (by omega) hs
  obtain ⟨m, rfl⟩ : ∃ m, n = m + 1 := ⟨n - 1, by omega⟩
  rw [plQ, if_neg (by omega), if_neg (by omega), hs, bd_s] at h3
  exact ⟨⟨hb.1, m, by omega, h3⟩, hb.2⟩
theorem plJ_n (hI : plJ A Z w h R y x X) (hx : 0 ≤ x ∧ x < w) (hy : 0 ≤ y ∧ y < h) (hs : stR A Z w y x X = none) : R = none := by
  obtain ⟨h1, n, h2, h3⟩ := hI
  obtain ⟨m, rfl⟩ : ∃ m, n = m + 1 := ⟨n - 1, by omega⟩
  rw [plQ, if_neg (by omega), if_neg (by omega), hs, bd_n] at h3
  exact h3.symm
theorem plJ_r (hI : plJ A Z w h R y x X) (hx : w ≤ x ∧ x ≤ w) (hy : 0 ≤ y ∧ y < h) (hw : 0 ≤ w ∧ w ≤ 64) : plJ A Z w h R (y + 1) 0 X := by
  obtain ⟨⟨v1, v2, v3, v5⟩, n, h2, h3⟩ := hI
  obtain ⟨m, rfl⟩ : ∃ m, n = m + 1 := ⟨n - 1, by omega⟩
  rw [plQ, if_neg (by omega), if_pos hx.1] at h3
  exact ⟨⟨pl_mono v1 (by omega), fun xx yy a1 a2 a3 a4 => v2 xx yy a1 a2 a3 (by omega), v3, v5⟩, m, by omega, h3⟩
theorem plJ_e (hI : plJ A Z w h R y x X) (hx : x ≤ w) (hy : h ≤ y) (hy2 : y ≤ h) : R = some X := by
  obtain ⟨h1, n, h2, h3⟩ := hI
  obtain ⟨m, rfl⟩ : ∃ m, n = m + 1 := ⟨n - 1, by omega⟩
  rw [plQ, if_pos hy] at h3
  exact h3.symm
theorem plJ_0 {D : RDT} (hz : mv Z) (hw : 0 ≤ w ∧ w ≤ 64) (hh : 0 ≤ h ∧ h ≤ 64) : plJ A Z w h (plQ A Z w h 5000 0 0 (D, mB (Z 3024), 0, fun _ => 0)) 0 0 (D, mB (Z 3024), 0, fun _ => 0) := by
  have hpb := pl_begin (s := Z) (c := mB (Z 3024)) hz (fun i _ => rfl) (fun i _ => rfl) (fun i _ => rfl) (fun i _ => rfl)
  exact ⟨⟨pl_mono hpb.1 (by omega), tb_0, ⟨Int.le_refl 0, (by show (0 : Int) ≤ 22; decide)⟩, ⟨Int.le_refl 0, Int.le_refl 0⟩⟩, 5000, by omega, rfl⟩
end PLJ
/-- a number that isn't there, or one whose error isn't -/
def rqN (Z : Nat → Int) (f : Int → Int) (N : Option (Int × RDT)) : Prop := ∀ m d, N = some (m, d) → ¬ (-(Z 3024 / 2) ≤ f m ∧ f m ≤ (Z 3024 - 1) / 2)
theorem rq_0 {Z : Nat → Int} {f : Int → Int} {N : Option (Int × RDT)} (h : N = none) : rqN Z f N := fun m d h2 => by rw [h] at h2; cases h2
theorem rq_1 {Z : Nat → Int} {f : Int → Int} {N : Option (Int × RDT)} {m : Int} {d : RDT} (h : N = some (m, d)) (h2 : ¬ (-(Z 3024 / 2) ≤ f m ∧ f m ≤ (Z 3024 - 1) / 2)) : rqN Z f N := fun m1 d1 h3 => by
  rw [h] at h3
  injection h3 with h3
  injection h3 with h3 _
  rw [← h3]
  exact h2
section RRS
variable {A : TN} {Z : Nat → Int} {a b c t q : Int} {i j : Nat} {X : XR} {d : RDT}
theorem rReg_s (h : rdNum A (ke (X.2.1 36 i) (X.2.1 39 i)) (Z 3026 - Z 3025 - 1) (Z 3025) X.1 = some (q, d)) (h0 : -(Z 3024 / 2) ≤ eM q (oR Z i X.2.1) ∧ eM q (oR Z i X.2.1) ≤ (Z 3024 - 1) / 2) : rReg A Z a b c t i j X = some (d, mLrn Z X.2.1 i (eM q (oR Z i X.2.1)), X.2.2.1, ua X.2.2.2 j (rR Z (gR Z a b c t i X.2.1) t (eM q (oR Z i X.2.1)))) := by
  unfold rReg
  rw [h, bd_s, if_pos h0]
theorem rReg_n (h : rqN Z (fun q => eM q (oR Z i X.2.1)) (rdNum A (ke (X.2.1 36 i) (X.2.1 39 i)) (Z 3026 - Z 3025 - 1) (Z 3025) X.1)) : rReg A Z a b c t i j X = none := by
  unfold rReg
  cases hq : rdNum A (ke (X.2.1 36 i) (X.2.1 39 i)) (Z 3026 - Z 3025 - 1) (Z 3025) X.1 with
  | none => rw [bd_n]
  | some u => rw [bd_s, if_neg (h u.1 u.2 hq)]
theorem rStp_s (h : rdNum A (kS X.2.1 (sS Z a b)) (Z 3026 - 1 - jj X.2.2.1 - Z 3025 - 1) (Z 3025) X.1 = some (q, d)) (h0 : -(Z 3024 / 2) ≤ eT q (sS Z a b) (oS X.2.1 (sS Z a b)) ∧ eT q (sS Z a b) (oS X.2.1 (sS Z a b)) ≤ (Z 3024 - 1) / 2) : rStp A Z a b j X = some (d, mStp Z X.2.1 (365 + sS Z a b).toNat (eT q (sS Z a b) (oS X.2.1 (sS Z a b))) ((q + 1 - sS Z a b) / 2), (if 0 < X.2.2.1 then X.2.2.1 - 1 else 0), ua X.2.2.2 j (rR Z (gS Z a b) (tS Z a b) (eT q (sS Z a b) (oS X.2.1 (sS Z a b))))) := by
  unfold rStp
  rw [h, bd_s, if_pos h0]
theorem rStp_n (h : rqN Z (fun q => eT q (sS Z a b) (oS X.2.1 (sS Z a b))) (rdNum A (kS X.2.1 (sS Z a b)) (Z 3026 - 1 - jj X.2.2.1 - Z 3025 - 1) (Z 3025) X.1)) : rStp A Z a b j X = none := by
  unfold rStp
  cases hq : rdNum A (kS X.2.1 (sS Z a b)) (Z 3026 - 1 - jj X.2.2.1 - Z 3025 - 1) (Z 3025) X.1 with
  | none => rw [bd_n]
  | some u => rw [bd_s, if_neg (h u.1 u.2 hq)]
end RRS
section MONO
variable {A : TN} {Z : Nat → Int}
theorem rdBit_m {d : RDT} {q : Int × RDT} (h : rdBit A d = some q) : d.1 ≤ q.2.1 := by
  obtain ⟨e, he, h2⟩ := bd_so h
  injection h2 with h2
  rw [← h2]
  show d.1 ≤ e.1
  unfold rdRdy at he
  by_cases h0 : d.2.2 = 0
  · rw [if_pos h0] at he
    unfold rdOpen at he
    by_cases h1 : d.1 < A.2
    · rw [if_pos h1] at he
      by_cases h3 : A.1 d.1.toNat = 255
      · rw [if_pos h3] at he
        by_cases h4 : d.1 + 1 < A.2
        · rw [if_pos h4] at he
          by_cases h5 : A.1 (d.1 + 1).toNat < 128
          · rw [if_pos h5] at he
            injection he with he
            rw [← he]
            show d.1 ≤ d.1 + 1
            omega
          · rw [if_neg h5] at he
            cases he
        · rw [if_neg h4] at he
          cases he
      · rw [if_neg h3] at he
        injection he with he
        rw [← he]
        show d.1 ≤ d.1 + 1
        omega
    · rw [if_neg h1] at he
      cases he
  · rw [if_neg h0] at he
    injection he with he
    rw [he]
    exact Int.le_refl _
theorem rdBs_m : ∀ (n : Nat) (v : Int) (d : RDT) (q : Int × RDT), rdBs A n v d = some q → d.1 ≤ q.2.1
  | 0, v, d, q, h => by
    rw [rdBs] at h
    injection h with h
    rw [← h]
    exact Int.le_refl _
  | n + 1, v, d, q, h => by
    rw [rdBs] at h
    obtain ⟨b, hb, h2⟩ := bd_so h
    exact Int.le_trans (rdBit_m hb) (rdBs_m n _ _ _ h2)
theorem rdZ_m {zm : Int} : ∀ (m : Nat) (z : Int) (d : RDT) (q : Int × RDT), rdZ A zm m z d = some q → d.1 ≤ q.2.1
  | 0, z, d, q, h => by
    rw [rdZ] at h
    cases h
  | m + 1, z, d, q, h => by
    rw [rdZ] at h
    obtain ⟨b, hb, h2⟩ := bd_so h
    by_cases h0 : b.1 = 0
    · rw [if_pos h0] at h2
      by_cases h1 : zm ≤ z
      · rw [if_pos h1] at h2
        cases h2
      · rw [if_neg h1] at h2
        exact Int.le_trans (rdBit_m hb) (rdZ_m m _ _ _ h2)
    · rw [if_neg h0] at h2
      injection h2 with h2
      rw [← h2]
      show d.1 ≤ b.2.1
      exact rdBit_m hb
theorem rdNum_m {k zm wb : Int} {d : RDT} {q : Int × RDT} (h : rdNum A k zm wb d = some q) : d.1 ≤ q.2.1 := by
  obtain ⟨z, hz, h2⟩ := bd_so h
  have h0 := rdZ_m 70 0 _ _ hz
  by_cases h1 : z.1 < zm
  · rw [if_pos h1] at h2
    obtain ⟨r, hr, h3⟩ := bd_so h2
    injection h3 with h3
    rw [← h3]
    show d.1 ≤ r.2.1
    exact Int.le_trans h0 (rdBs_m _ 0 _ _ hr)
  · rw [if_neg h1] at h2
    obtain ⟨r, hr, h3⟩ := bd_so h2
    injection h3 with h3
    rw [← h3]
    show d.1 ≤ r.2.1
    exact Int.le_trans h0 (rdBs_m _ 0 _ _ hr)
theorem rRun_m {ro : Int} : ∀ (f : Nat) (n p : Int) (d : RDT) (u : Int × Int × RDT), rRun A ro f n p d = some u → d.1 ≤ u.2.2.1
  | 0, n, p, d, u, h => by
    rw [rRun] at h
    cases h
  | f + 1, n, p, d, u, h => by
    rw [rRun] at h
    by_cases h1 : ro ≤ n
    · rw [if_pos h1] at h
      injection h with h
      rw [← h]
      exact Int.le_refl _
    · rw [if_neg h1] at h
      obtain ⟨q, hq, h2⟩ := bd_so h
      by_cases h3 : q.1 = 1
      · rw [if_pos h3] at h2
        exact Int.le_trans (rdBit_m hq) (rRun_m f _ _ _ _ h2)
      · rw [if_neg h3] at h2
        obtain ⟨r, hr, h4⟩ := bd_so h2
        by_cases h6 : ro ≤ n + r.1
        · rw [if_pos h6] at h4
          cases h4
        · rw [if_neg h6] at h4
          injection h4 with h4
          rw [← h4]
          show d.1 ≤ r.2.1
          exact Int.le_trans (rdBit_m hq) (rdBs_m _ 0 _ _ hr)
theorem rReg_m {a b c u : Int} {i j : Nat} {X X2 : XR} (h : rReg A Z a b c u i j X = some X2) : X.1.1 ≤ X2.1.1 := by
  obtain ⟨q, hq, h2⟩ := bd_so h
  by_cases h0 : -(Z 3024 / 2) ≤ eM q.1 (oR Z i X.2.1) ∧ eM q.1 (oR Z i X.2.1) ≤ (Z 3024 - 1) / 2
  · rw [if_pos h0] at h2
    injection h2 with h2
    rw [← h2]
    show X.1.1 ≤ q.2.1
    exact rdNum_m hq
  · rw [if_neg h0] at h2
    cases h2
theorem rStp_m {a b : Int} {j : Nat} {X X2 : XR} (h : rStp A Z a b j X = some X2) : X.1.1 ≤ X2.1.1 := by
  obtain ⟨q, hq, h2⟩ := bd_so h
  by_cases h0 : -(Z 3024 / 2) ≤ eT q.1 (sS Z a b) (oS X.2.1 (sS Z a b)) ∧ eT q.1 (sS Z a b) (oS X.2.1 (sS Z a b)) ≤ (Z 3024 - 1) / 2
  · rw [if_pos h0] at h2
    injection h2 with h2
    rw [← h2]
    show X.1.1 ≤ q.2.1
    exact rdNum_m hq
  · rw [if_neg h0] at h2
    cases h2
theorem stR_m {w y x : Int} {X : XR} {q : Int × XR} (h : stR A Z w y x X = some q) : X.1.1 ≤ q.2.1.1 := by
  unfold stR at h
  by_cases hg : gsT Z w y x X.2.2.2 = 0
  · rw [if_pos hg] at h
    obtain ⟨u, hu, h2⟩ := bd_so h
    have h0 := rRun_m 70 0 _ _ _ hu
    by_cases h3 : x + u.1 < w
    · rw [if_pos h3] at h2
      obtain ⟨X3, h4, h5⟩ := bd_so h2
      injection h5 with h5
      rw [← h5]
      show X.1.1 ≤ X3.1.1
      exact Int.le_trans h0 (rStp_m h4)
    · rw [if_neg h3] at h2
      injection h2 with h2
      rw [← h2]
      show X.1.1 ≤ u.2.2.1
      exact h0
  · rw [if_neg hg] at h
    obtain ⟨X1, h4, h5⟩ := bd_so h
    injection h5 with h5
    rw [← h5]
    show X.1.1 ≤ X1.1.1
    exact rReg_m h4
theorem plQ_m {w h : Int} : ∀ (n : Nat) (y x : Int) (X X2 : XR), plQ A Z w h n y x X = some X2 → X.1.1 ≤ X2.1.1
  | 0, y, x, X, X2, hp => by
    rw [plQ] at hp
    cases hp
  | n + 1, y, x, X, X2, hp => by
    rw [plQ] at hp
    by_cases h1 : h ≤ y
    · rw [if_pos h1] at hp
      injection hp with hp
      rw [hp]
      exact Int.le_refl _
    · rw [if_neg h1] at hp
      by_cases h2 : w ≤ x
      · rw [if_pos h2] at hp
        exact plQ_m n _ _ _ _ hp
      · rw [if_neg h2] at hp
        obtain ⟨q, hq, h3⟩ := bd_so hp
        exact Int.le_trans (stR_m hq) (plQ_m n _ _ _ _ h3)
end MONO
