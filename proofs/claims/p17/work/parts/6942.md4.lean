/-! one step of a plane: what it costs, what it keeps -/
theorem mLrn_at {Z : Nat → Int} {M : MT} {i : Nat} {e : Int} : (mLrn Z M i e 36 i = (if M 39 i = Z 3022 then (M 36 i + fA e) / 2 else M 36 i + fA e)) ∧ (mLrn Z M i e 39 i = (if M 39 i = Z 3022 then M 39 i / 2 else M 39 i) + 1) ∧ (mLrn Z M i e 37 i = lB (hv (Z 3022) (M 39 i) (M 37 i + e * Z 3023)) (hv (Z 3022) (M 39 i) (M 39 i) + 1)) ∧ (mLrn Z M i e 38 i = lC (hv (Z 3022) (M 39 i) (M 37 i + e * Z 3023)) (hv (Z 3022) (M 39 i) (M 39 i) + 1) (M 38 i)) := by
  refine ⟨?_, ?_, ?_, ?_⟩
  · show ua (ua (M 36) i (M 36 i + fA e)) i (hv (Z 3022) (M 39 i) (ua (M 36) i (M 36 i + fA e) i)) i = _
    rw [ua_eq, ua_eq]
    rfl
  · show ua (M 39) i (hv (Z 3022) (M 39 i) (M 39 i) + 1) i = _
    rw [ua_eq]
    rfl
  · show ua (ua (ua (M 37) i (M 37 i + e * Z 3023)) i (hv (Z 3022) (M 39 i) (ua (M 37) i (M 37 i + e * Z 3023) i))) i (lB (ua (ua (M 37) i (M 37 i + e * Z 3023)) i (hv (Z 3022) (M 39 i) (ua (M 37) i (M 37 i + e * Z 3023) i)) i) (ua (M 39) i (hv (Z 3022) (M 39 i) (M 39 i) + 1) i)) i = _
    simp only [ua_eq]
  · show ua (M 38) i (lC (ua (ua (M 37) i (M 37 i + e * Z 3023)) i (hv (Z 3022) (M 39 i) (ua (M 37) i (M 37 i + e * Z 3023) i)) i) (ua (M 39) i (hv (Z 3022) (M 39 i) (M 39 i) + 1) i) (M 38 i)) i = _
    simp only [ua_eq]
theorem mLrn_ne {Z : Nat → Int} {M : MT} {i j : Nat} {e : Int} (h : j ≠ i) : mLrn Z M i e 36 j = M 36 j ∧ mLrn Z M i e 37 j = M 37 j ∧ mLrn Z M i e 38 j = M 38 j ∧ mLrn Z M i e 39 j = M 39 j := by
  refine ⟨?_, ?_, ?_, ?_⟩
  · show ua (ua (M 36) i _) i _ j = _
    rw [ua_ne h, ua_ne h]
  · show ua (ua (ua (M 37) i _) i _) i _ j = _
    rw [ua_ne h, ua_ne h, ua_ne h]
  · show ua (M 38) i _ j = _
    rw [ua_ne h]
  · show ua (M 39) i _ j = _
    rw [ua_ne h]
theorem mStp_at {Z : Nat → Int} {M : MT} {i : Nat} {e mo : Int} : (mStp Z M i e mo 36 i = (if M 39 i = Z 3022 then (M 36 i + mo) / 2 else M 36 i + mo)) ∧ (mStp Z M i e mo 39 i = (if M 39 i = Z 3022 then M 39 i / 2 else M 39 i) + 1) ∧ (mStp Z M i e mo 37 i = hv (Z 3022) (M 39 i) (M 37 i + (if e < 0 then 1 else 0))) ∧ (mStp Z M i e mo 38 i = M 38 i) := by
  refine ⟨?_, ?_, ?_, rfl⟩
  · show ua (ua (M 36) i (M 36 i + mo)) i (hv (Z 3022) (M 39 i) (ua (M 36) i (M 36 i + mo) i)) i = _
    rw [ua_eq, ua_eq]
    rfl
  · show ua (M 39) i (hv (Z 3022) (M 39 i) (M 39 i) + 1) i = _
    rw [ua_eq]
    rfl
  · show ua (ua (M 37) i (M 37 i + (if e < 0 then 1 else 0))) i (hv (Z 3022) (M 39 i) (ua (M 37) i (M 37 i + (if e < 0 then 1 else 0)) i)) i = _
    rw [ua_eq, ua_eq]
theorem mStp_ne {Z : Nat → Int} {M : MT} {i j : Nat} {e mo : Int} (h : j ≠ i) : mStp Z M i e mo 36 j = M 36 j ∧ mStp Z M i e mo 37 j = M 37 j ∧ mStp Z M i e mo 38 j = M 38 j ∧ mStp Z M i e mo 39 j = M 39 j := by
  refine ⟨?_, ?_, rfl, ?_⟩
  · show ua (ua (M 36) i _) i _ j = _
    rw [ua_ne h, ua_ne h]
  · show ua (ua (M 37) i _) i _ j = _
    rw [ua_ne h, ua_ne h]
  · show ua (M 39) i _ j = _
    rw [ua_ne h]
theorem xReg_b {Z : Nat → Int} {v a b c u t : Int} {i j : Nat} {X : XT} (hz : mv Z) (hp : pl Z t X.2.1) (ht : 0 ≤ t ∧ t ≤ 4095) (hw : wok X.1) (hi : i < 365) (hv_ : 0 ≤ v ∧ v ≤ Z 3017) : pl Z (t + 1) (xReg Z v a b c u i j X).2.1 ∧ wok (xReg Z v a b c u i j X).1 ∧ 4096 * wu (xReg Z v a b c u i j X).1 + pot Z (xReg Z v a b c u i j X).2.1 ≤ 4096 * wu X.1 + pot Z X.2.1 + cb Z ∧ X.1.2.1 ≤ (xReg Z v a b c u i j X).1.2.1 := by
  obtain ⟨W, M, P, T⟩ := X
  have hp : pl Z t M := hp
  have hw : wok W := hw
  have hx := mv_fx hz
  have hpi := hp i (by omega)
  have hb := pl_bd hz (by omega) hpi
  have hg : 0 ≤ gR Z a b c u i M ∧ gR Z a b c u i M ≤ Z 3017 := fW_bd hz
  obtain ⟨he, _⟩ := eR_bd (t := u) hz hg hv_
  unfold xReg
  show pl Z (t + 1) (mLrn Z M i (eR Z (gR Z a b c u i M) u v)) ∧ wok (wNum W (fM (eR Z (gR Z a b c u i M) u v) (oR Z i M)) (ke (M 36 i) (M 39 i)) (Z 3026 - Z 3025 - 1) (Z 3025)) ∧ 4096 * wu (wNum W (fM (eR Z (gR Z a b c u i M) u v) (oR Z i M)) (ke (M 36 i) (M 39 i)) (Z 3026 - Z 3025 - 1) (Z 3025)) + pot Z (mLrn Z M i (eR Z (gR Z a b c u i M) u v)) ≤ 4096 * wu W + pot Z M + cb Z ∧ W.2.1 ≤ (wNum W (fM (eR Z (gR Z a b c u i M) u v) (oR Z i M)) (ke (M 36 i) (M 39 i)) (Z 3026 - Z 3025 - 1) (Z 3025)).2.1
  generalize eR Z (gR Z a b c u i M) u v = e at he ⊢
  obtain ⟨k0, k1, k2⟩ := ke_sp (a := M 36 i) (n := M 39 i) (by omega) (by omega)
  have hodd : oR Z i M = 0 ∨ (oR Z i M = 1 ∧ ke (M 36 i) (M 39 i) = 0) := by
    unfold oR
    split
    · rename_i h
      exact Or.inr ⟨rfl, h.2.1⟩
    · exact Or.inl rfl
  generalize oR Z i M = o at hodd ⊢
  generalize ke (M 36 i) (M 39 i) = k at k0 k1 k2 hodd ⊢
  have hm : (0 ≤ fM e o ∧ fM e o ≤ Z 3024) ∧ fM e o ≤ 2 * fA e + 1 ∧ (k ≠ 0 → fM e o ≤ 2 * fA e) := by
    unfold fM fA
    (repeat' split) <;> omega
  have hE : 2 * fA e ≤ Z 3024 + 1 := by
    unfold fA
    split <;> omega
  have hall := reg_all (s := Z) (t := t) (c := M) (i := i) (m := fM e o) (k := k) (E := fA e) (C := cst (fM e o) k (Z 3026 - Z 3025 - 1) (Z 3025)) hz hi hpi k0 k1 k2 fA_0 hm.1.1 hm.1.2 hm.2.1 hm.2.2 rfl
  have hn := wNum_u (W := W) (m := fM e o) (k := k) (z := Z 3026 - Z 3025 - 1) (q := Z 3025) hw (by omega) k0 (by omega) (by omega)
  obtain ⟨l1, l2, l3, l4⟩ := mLrn_at (Z := Z) (M := M) (i := i) (e := e)
  have h2 := hall.2 (mLrn Z M i e) l1 l2 (fun j hj => (mLrn_ne hj).1) (fun j hj => (mLrn_ne hj).2.2.2)
  refine ⟨?_, hn.1, by omega, hn.2.2⟩
  refine pl_next (s := Z) (s' := Z) (E := fA e) hz ht.1 hp (by omega) rfl fA_0 hE l1 l2 ?_ ?_ (fun j hj => (mLrn_ne hj).1) (fun j hj => (mLrn_ne hj).2.1) (fun j hj => (mLrn_ne hj).2.2.1) (fun j hj => (mLrn_ne hj).2.2.2)
  · rw [l3]
    have hN := hpi.2.2.2.1
    unfold lB hv
    (repeat' split) <;> omega
  · rw [l4]
    unfold lC
    (repeat' split) <;> omega
theorem fN_bd {Z : Nat → Int} {e s few : Int} (hs : s = 0 ∨ (s = 1 ∧ e ≠ 0)) (he : -(Z 3024 / 2) ≤ e ∧ e ≤ (Z 3024 - 1) / 2) : 0 ≤ fN e s few ∧ fN e s few ≤ Z 3024 := by
  unfold fN fA
  (repeat' split) <;> omega
theorem xStp_b {Z : Nat → Int} {v a b t : Int} {j : Nat} {X : XT} (hz : mv Z) (hp : pl Z t X.2.1) (ht : 0 ≤ t ∧ t ≤ 4095) (hw : wok X.1) (hv_ : 0 ≤ v ∧ v ≤ Z 3017) (ha : 0 ≤ a ∧ a ≤ Z 3017) (hb_ : 0 ≤ b ∧ b ≤ Z 3017) (hf : Z 3018 < fA (v - a)) (hpc : 0 ≤ X.2.2.1 ∧ X.2.2.1 ≤ 22) : pl Z (t + 1) (xStp Z v a b j X).2.1 ∧ wok (xStp Z v a b j X).1 ∧ 4096 * (wu (xStp Z v a b j X).1 + psi (xStp Z v a b j X).2.2.1) + pot Z (xStp Z v a b j X).2.1 ≤ 4096 * (wu X.1 + psi X.2.2.1 - 8 - 9 * jj X.2.2.1) + pot Z X.2.1 + cb Z ∧ X.1.2.1 ≤ (xStp Z v a b j X).1.2.1 ∧ (0 ≤ (xStp Z v a b j X).2.2.1 ∧ (xStp Z v a b j X).2.2.1 ≤ 22) ∧ 0 ≤ nS Z a b v X.2.1 := by
  obtain ⟨W, M, P, T⟩ := X
  have hp : pl Z t M := hp
  have hw : wok W := hw
  have hpc : 0 ≤ P ∧ P ≤ 22 := hpc
  have hx := mv_fx hz
  have hs : sS Z a b = 0 ∨ sS Z a b = 1 := by
    unfold sS
    split
    · exact Or.inr rfl
    · exact Or.inl rfl
  have hg : 0 ≤ gS Z a b ∧ gS Z a b ≤ Z 3017 := by
    unfold gS
    split <;> omega
  obtain ⟨he, hne⟩ := eR_bd (t := tS Z a b) hz hg hv_
  have hse : sS Z a b = 0 ∨ (sS Z a b = 1 ∧ eS Z a b v ≠ 0) := by
    rcases hs with h | h
    · exact Or.inl h
    · refine Or.inr ⟨h, hne ?_⟩
      unfold gS
      rw [if_pos h]
      exact hf
  have he : -(Z 3024 / 2) ≤ eS Z a b v ∧ eS Z a b v ≤ (Z 3024 - 1) / 2 := he
  have hi : (365 + sS Z a b).toNat = 365 ∨ (365 + sS Z a b).toNat = 366 := by omega
  have hpi := hp (365 + sS Z a b).toNat (by omega)
  have hb := pl_bd hz (by omega) hpi
  have hm := fN_bd (few := oS M (sS Z a b)) hse he
  have hm : 0 ≤ nS Z a b v M ∧ nS Z a b v M ≤ Z 3024 := hm
  unfold xStp
  show pl Z (t + 1) (mStp Z M (365 + sS Z a b).toNat (eS Z a b v) ((nS Z a b v M + 1 - sS Z a b) / 2)) ∧ wok (wNum W (nS Z a b v M) (kS M (sS Z a b)) (Z 3026 - 1 - jj P - Z 3025 - 1) (Z 3025)) ∧ 4096 * (wu (wNum W (nS Z a b v M) (kS M (sS Z a b)) (Z 3026 - 1 - jj P - Z 3025 - 1) (Z 3025)) + psi (if 0 < P then P - 1 else 0)) + pot Z (mStp Z M (365 + sS Z a b).toNat (eS Z a b v) ((nS Z a b v M + 1 - sS Z a b) / 2)) ≤ 4096 * (wu W + psi P - 8 - 9 * jj P) + pot Z M + cb Z ∧ W.2.1 ≤ (wNum W (nS Z a b v M) (kS M (sS Z a b)) (Z 3026 - 1 - jj P - Z 3025 - 1) (Z 3025)).2.1 ∧ (0 ≤ (if 0 < P then P - 1 else 0) ∧ (if 0 < P then P - 1 else 0) ≤ 22) ∧ 0 ≤ nS Z a b v M
  generalize nS Z a b v M = m at hm ⊢
  generalize eS Z a b v = e at he ⊢
  have hk := ke_sp (a := M 36 (365 + sS Z a b).toNat + (if sS Z a b = 1 then M 39 (365 + sS Z a b).toNat / 2 else 0)) (n := M 39 (365 + sS Z a b).toNat) (by omega) (by split <;> omega)
  have hk : (0 ≤ kS M (sS Z a b) ∧ kS M (sS Z a b) ≤ 30) ∧ M 36 (365 + sS Z a b).toNat + (if sS Z a b = 1 then M 39 (365 + sS Z a b).toNat / 2 else 0) ≤ M 39 (365 + sS Z a b).toNat * 2 ^ (kS M (sS Z a b)).toNat ∧ (kS M (sS Z a b) = 0 ∨ M 39 (365 + sS Z a b).toNat * 2 ^ (kS M (sS Z a b) - 1).toNat < M 36 (365 + sS Z a b).toNat + (if sS Z a b = 1 then M 39 (365 + sS Z a b).toNat / 2 else 0)) := hk
  obtain ⟨k0, k1, k2⟩ := hk
  generalize kS M (sS Z a b) = k at k0 k1 k2 ⊢
  have hS : M 36 (365 + sS Z a b).toNat ≤ M 36 (365 + sS Z a b).toNat + (if sS Z a b = 1 then M 39 (365 + sS Z a b).toNat / 2 else 0) ∧ M 36 (365 + sS Z a b).toNat + (if sS Z a b = 1 then M 39 (365 + sS Z a b).toNat / 2 else 0) ≤ M 36 (365 + sS Z a b).toNat + M 39 (365 + sS Z a b).toNat / 2 := by
    split <;> omega
  generalize (if sS Z a b = 1 then M 39 (365 + sS Z a b).toNat / 2 else 0) = q at k1 k2 hS
  generalize hii : (365 + sS Z a b).toNat = i at hi hpi hb k1 k2 hS ⊢
  generalize sS Z a b = s at hs hii ⊢
  have hj := jj_bd hpc
  have hE : 0 ≤ (m + 1 - s) / 2 ∧ 2 * ((m + 1 - s) / 2) ≤ Z 3024 + 1 ∧ m ≤ 2 * ((m + 1 - s) / 2) + 1 := by omega
  have hall := stop_all (s := Z) (t := t) (c := M) (i := i) (m := m) (k := k) (E := (m + 1 - s) / 2) (J := jj P) (S := M 36 i + q) (C := cst m k (Z 3026 - 1 - jj P - Z 3025 - 1) (Z 3025)) hz hi hpi k0 hS k1 k2 hE.1 hm.1 hm.2 hE.2.2 hj rfl
  have hn := wNum_u (W := W) (m := m) (k := k) (z := Z 3026 - 1 - jj P - Z 3025 - 1) (q := Z 3025) hw (by omega) k0 (by omega) (by omega)
  obtain ⟨l1, l2, l3, l4⟩ := mStp_at (Z := Z) (M := M) (i := i) (e := e) (mo := (m + 1 - s) / 2)
  have h2 := hall.2 (mStp Z M i e ((m + 1 - s) / 2)) l1 l2 (fun j hj => (mStp_ne hj).1) (fun j hj => (mStp_ne hj).2.2.2)
  have hps : psi (if 0 < P then P - 1 else 0) = psi P - 9 * jj P := by
    by_cases h0 : 0 < P
    · rw [if_pos h0]
      exact psi_d h0
    · rw [if_neg h0]
      exact psi_z hpc.1 (by omega)
  refine ⟨?_, hn.1, by rw [hps]; omega, hn.2.2, by split <;> omega, hm.1⟩
  refine pl_next (s := Z) (s' := Z) (E := (m + 1 - s) / 2) hz ht.1 hp (by omega) rfl hE.1 hE.2.1 l1 l2 ?_ ?_ (fun j hj => (mStp_ne hj).1) (fun j hj => (mStp_ne hj).2.1) (fun j hj => (mStp_ne hj).2.2.1) (fun j hj => (mStp_ne hj).2.2.2)
  · rw [l3]
    have hB := hpi.2.2.2.2.2.1
    unfold hv
    (repeat' split) <;> omega
  · rw [l4]
    omega
