/-! the reference reads numbers, exactly -/
/-- behind z zeros -/
def zJ (A : TN) (zm : Int) (R : Option (Int × RDT)) (z : Int) (d : RDT) : Prop := ∃ m : Nat, zm - z < m ∧ rdZ A zm m z d = R
set_option maxRecDepth 100000 in
set_option maxHeartbeats 4000000 in
theorem y_number_L12 {Zi : Nat → Option (Nat × (Nat → Int))} {d n : Nat} {D : Nat → Nat × Nat} {s : Nat → Int} {p : Nat → Nat} {c : Nat → Nat → Int}  {Q : mi_Rs → mi_H → Prop} (hd : 4 ≤ d) (hS : bS s) (hC : bC D c) (A : TN) (RZ : Option (Int × RDT)) (k_ : Int) (l_ : Int) (wh : Int) (b_k_ : 0 ≤ k_ ∧ k_ ≤ 16) (b_l_ : 1 ≤ l_ ∧ l_ ≤ 96) (b_wh : 0 ≤ wh ∧ wh ≤ 32768) (hq0 : tpl A (s 3014) (c 34)) (hq1 : 0 ≤ (l_ - s 3025 - 1) ∧ (l_ - s 3025 - 1) ≤ 63 ∧ 0 ≤ s 3025 ∧ s 3025 ≤ 16)
  (hK : ∀ (z : Int) (s0 : Nat → Int) (b_z : 0 ≤ z ∧ z ≤ 66) (hS0 : bS s0) (hF0 : fr s s0 [3049, 3050, 3051, 3052, 3053, 3054]) (i0 : s0 3050 = 0 → RZ = some (z, s0 3049, s0 3052, s0 3054)) (i1 : s0 3050 ≠ 0 → RZ = none) (i2 : s0 3050 = 0 → (0 ≤ s0 3054 ∧ s0 3054 ≤ 8) ∧ (0 ≤ s0 3052 ∧ s0 3052 ≤ 255)) (i3 : s0 3049 ≤ s 3014) (i4 : s0 3050 = 0 → z ≤ (l_ - s 3025 - 1)), (True) → tt Zi d 167 (59, [some (.inr (.inl 30)), some (.inl k_), some (.inl l_), some (.inl wh), some (.inl z)], [], n, D, s0, p, c) Q) :
  ∀ (m : Nat) (z : Int) (s0 : Nat → Int) (b_z : 0 ≤ z ∧ z ≤ 66) (hS0 : bS s0) (hF0 : fr s s0 [3049, 3050, 3051, 3052, 3053, 3054]) (i0 : s0 3050 = 0 → z ≤ (l_ - s 3025 - 1) ∧ ((0 ≤ s0 3054 ∧ s0 3054 ≤ 8) ∧ (0 ≤ s0 3052 ∧ s0 3052 ≤ 255))) (i1 : s0 3050 = 0 → zJ A (l_ - s 3025 - 1) RZ z (s0 3049, s0 3052, s0 3054)) (i2 : s0 3050 ≠ 0 → RZ = none) (i3 : s0 3049 ≤ s 3014) (i4 : z ≤ l_ - s 3025), (if s0 3050 = 0 then l_ - s 3025 - z + 1 else 0).toNat < m → tt Zi d 167 (12, [some (.inr (.inl 30)), some (.inl k_), some (.inl l_), some (.inl wh), some (.inl z)], [], n, D, s0, p, c) Q := by
  intro m
  induction m with
  | zero => intro z s0 b_z hS0 hF0 i0 i1 i2 i3 i4 hm; exact absurd hm (by omega)
  | succ m ih =>
    intro z s0 b_z hS0 hF0 i0 i1 i2 i3 i4 hm
    have e1 : s0 3025 = s 3025 := hF0 3025 (by decide)
    have b2 : 0 ≤ (s0 3025) ∧ (s0 3025) ≤ 31 := hS0 3025
    have b3 : 0 ≤ (s 3025) ∧ (s 3025) ≤ 31 := hS 3025
    have e4 : s0 3014 = s 3014 := hF0 3014 (by decide)
    have b5 : 0 ≤ (s0 3014) ∧ (s0 3014) ≤ 32768 := hS0 3014
    have b6 : 0 ≤ (s 3014) ∧ (s 3014) ≤ 32768 := hS 3014
    have htp : tpl A (s0 3014) (c 34) := by rw [hF0 3014 (by decide)]; exact hq0
    have b7 : 0 ≤ (s0 3050) ∧ (s0 3050) ≤ 8 := hS0 3050
    have eQ : s0 3025 = s 3025 := hF0 3025 (by decide)
    refine tt_k 2 (S' := (16, [some (.inr (.inl 30)), some (.inl k_), some (.inl l_), some (.inl wh), some (.inl z)], [.inl (s0 3050)], n, D, s0, p, c)) rfl ?_
    refine tz_ne (x := (s0 3050)) rfl rfl (by omega) (fun h8 => ?_) (fun h8 => ?_)
    · show tt Zi d 167 (59, [some (.inr (.inl 30)), some (.inl k_), some (.inl l_), some (.inl wh), some (.inl z)], [], n, D, s0, p, c) _
      exact hK z s0 (by omega) hS0 hF0 (fun h => absurd h (by omega)) i2 (fun h => absurd h (by omega)) (show (s0 3049) ≤ s 3014 by omega) (fun h => absurd h (by omega)) trivial
    · show tt Zi d 167 (19, [some (.inr (.inl 30)), some (.inl k_), some (.inl l_), some (.inl wh), some (.inl z)], [], n, D, s0, p, c) _
      refine tt_k 1 (S' := (20, [some (.inr (.inl 30)), some (.inl k_), some (.inl l_), some (.inl wh), some (.inl z)], [.inr (.inl 30)], n, D, s0, p, c)) rfl ?_
      have b9 : 0 ≤ (s0 3054) ∧ (s0 3054) ≤ 8 := hS0 3054
      have b10 : 0 ≤ (s0 3052) ∧ (s0 3052) ≤ 255 := hS0 3052
      have b11 : 0 ≤ (s0 3049) ∧ (s0 3049) ≤ 32769 := hS0 3049
      refine tt_cl (by omega) rfl (y_bit (Zi := Zi) (D := D) (s := s0) (p := p) (c := c) (by omega) hS0 hC A htp (show (s0 3050) = 0 by omega) (show (0 ≤ (s0 3054) ∧ (s0 3054) ≤ 8) ∧ (0 ≤ (s0 3052) ∧ (s0 3052) ≤ 255) by omega) (show (s0 3049) ≤ (s0 3014) by omega)) ?_
      rintro _ _ ⟨s12, r13, rfl, rfl, hS12, f14, b15, k16, k17, k18, k19, k20⟩
      show tt Zi d 167 (23, [some (.inr (.inl 30)), some (.inl k_), some (.inl l_), some (.inl wh), some (.inl z)], [.inl r13], n, D, s12, p, c) _
      replace k16 : (s12 3050) = 0 → rdBit A ((s0 3049), (s0 3052), (s0 3054)) = some (r13, (s12 3049), (s12 3052), (s12 3054)) := k16
      replace k17 : (s12 3050) ≠ 0 → rdBit A ((s0 3049), (s0 3052), (s0 3054)) = none := k17
      replace k18 : (s12 3050) ≠ 0 → r13 = 0 := k18
      replace k19 : (s12 3050) = 0 → (0 ≤ (s12 3054) ∧ (s12 3054) ≤ 8) ∧ (0 ≤ (s12 3052) ∧ (s12 3052) ≤ 255) := k19
      replace k20 : (s12 3049) ≤ (s0 3014) := k20
      have b21 : 0 ≤ (s12 3050) ∧ (s12 3050) ≤ 8 := hS12 3050
      have b22 : 0 ≤ (s12 3049) ∧ (s12 3049) ≤ 32769 := hS12 3049
      have b23 : 0 ≤ (s12 3052) ∧ (s12 3052) ≤ 255 := hS12 3052
      have b24 : 0 ≤ (s12 3054) ∧ (s12 3054) ≤ 8 := hS12 3054
      have e25 : s12 3025 = (s0 3025) := (f14 3025 (by decide))
      have b26 : 0 ≤ (s12 3025) ∧ (s12 3025) ≤ 31 := hS12 3025
      have e27 : s12 3014 = (s0 3014) := (f14 3014 (by decide))
      have b28 : 0 ≤ (s12 3014) ∧ (s12 3014) ≤ 32768 := hS12 3014
      have hx29 : tpl A (s12 3014) (c 34) := by rw [f14 3014 (by decide)]; exact htp
      refine tz_ne (x := r13) rfl rfl (by omega) (fun h30 => ?_) (fun h30 => ?_)
      · show tt Zi d 167 (59, [some (.inr (.inl 30)), some (.inl k_), some (.inl l_), some (.inl wh), some (.inl z)], [], n, D, s12, p, c) _
        have hf0 : s12 3050 = 0 := Decidable.byContradiction (fun h => absurd (k18 h) (by omega))
        obtain ⟨mz, hm1, hm2⟩ := i1 (by omega)
        obtain ⟨m1, rfl⟩ : ∃ k, mz = k + 1 := ⟨mz - 1, by omega⟩
        exact hK z s12 (by omega) hS12 (fr_tr hF0 f14 (by decide)) (fun h => rdZ_1 hm2 (k16 h) (by omega)) (fun h => absurd hf0 h) (show (s12 3050) = 0 → (0 ≤ (s12 3054) ∧ (s12 3054) ≤ 8) ∧ (0 ≤ (s12 3052) ∧ (s12 3052) ≤ 255) by omega) (show (s12 3049) ≤ s 3014 by omega) (show (s12 3050) = 0 → z ≤ (l_ - s 3025 - 1) by omega) trivial
      · show tt Zi d 167 (26, [some (.inr (.inl 30)), some (.inl k_), some (.inl l_), some (.inl wh), some (.inl z)], [], n, D, s12, p, c) _
        refine tt_k 3 (S' := (33, [some (.inr (.inl 30)), some (.inl k_), some (.inl l_), some (.inl wh), some (.inl (z + 1))], [.inl (s12 3050)], n, D, s12, p, c)) rfl ?_
        refine tz_ne (x := (s12 3050)) rfl rfl (by omega) (fun h31 => ?_) (fun h31 => ?_)
        · show tt Zi d 167 (12, [some (.inr (.inl 30)), some (.inl k_), some (.inl l_), some (.inl wh), some (.inl (z + 1))], [], n, D, s12, p, c) _
          obtain ⟨mz, hm1, hm2⟩ := i1 (by omega)
          obtain ⟨m1, rfl⟩ : ∃ k, mz = k + 1 := ⟨mz - 1, by omega⟩
          exact ih (z + 1) s12 (by omega) hS12 (fr_tr hF0 f14 (by decide)) (show (s12 3050) = 0 → (z + 1) ≤ (l_ - s 3025 - 1) ∧ ((0 ≤ (s12 3054) ∧ (s12 3054) ≤ 8) ∧ (0 ≤ (s12 3052) ∧ (s12 3052) ≤ 255)) by omega) (fun h => ⟨m1, by omega, rdZ_s hm2 (show rdBit A (s0 3049, s0 3052, s0 3054) = some (0, _) by have h := k16 (by omega); rw [show r13 = 0 by omega] at h; exact h) (by omega)⟩) (fun h => rdZ_n hm2 (k17 h)) (show (s12 3049) ≤ s 3014 by omega) (show (z + 1) ≤ l_ - s 3025 by omega) (show (if (s12 3050) = 0 then l_ - s 3025 - (z + 1) + 1 else 0).toNat < m by omega)
        · show tt Zi d 167 (36, [some (.inr (.inl 30)), some (.inl k_), some (.inl l_), some (.inl wh), some (.inl (z + 1))], [], n, D, s12, p, c) _
          refine tt_k 7 (S' := (46, [some (.inr (.inl 30)), some (.inl k_), some (.inl l_), some (.inl wh), some (.inl (z + 1))], [.inl (((l_ - (s12 3025)) - 1)), .inl (z + 1)], n, D, s12, p, c)) rfl ?_
          refine tb_le (x := (z + 1)) (y := ((l_ - (s12 3025)) - 1)) rfl rfl (by omega) (fun h32 => ?_) (fun h32 => ?_)
          · show tt Zi d 167 (12, [some (.inr (.inl 30)), some (.inl k_), some (.inl l_), some (.inl wh), some (.inl (z + 1))], [], n, D, s12, p, c) _
            obtain ⟨mz, hm1, hm2⟩ := i1 (by omega)
            obtain ⟨m1, rfl⟩ : ∃ k, mz = k + 1 := ⟨mz - 1, by omega⟩
            exact ih (z + 1) s12 (by omega) hS12 (fr_tr hF0 f14 (by decide)) (show (s12 3050) = 0 → (z + 1) ≤ (l_ - s 3025 - 1) ∧ ((0 ≤ (s12 3054) ∧ (s12 3054) ≤ 8) ∧ (0 ≤ (s12 3052) ∧ (s12 3052) ≤ 255)) by omega) (fun h => ⟨m1, by omega, rdZ_s hm2 (show rdBit A (s0 3049, s0 3052, s0 3054) = some (0, _) by have h := k16 (by omega); rw [show r13 = 0 by omega] at h; exact h) (by omega)⟩) (fun h => rdZ_n hm2 (k17 h)) (show (s12 3049) ≤ s 3014 by omega) (show (z + 1) ≤ l_ - s 3025 by omega) (show (if (s12 3050) = 0 then l_ - s 3025 - (z + 1) + 1 else 0).toNat < m by omega)
          · show tt Zi d 167 (49, [some (.inr (.inl 30)), some (.inl k_), some (.inl l_), some (.inl wh), some (.inl (z + 1))], [], n, D, s12, p, c) _
            refine tt_k 3 (S' := (53, [some (.inr (.inl 30)), some (.inl k_), some (.inl l_), some (.inl wh), some (.inl (z + 1))], [.inl wh, .inl 7, .inr (.inl 30)], n, D, s12, p, c)) rfl ?_
            refine tt_cl (by omega) rfl (k_fail (Zi := Zi) (D := D) (s := s12) (p := p) (c := c) (by omega) hS12 hC 7 wh (by omega) (by omega)) ?_
            rintro _ _ ⟨s33, rfl, rfl, hS33, f34, k35, k36⟩
            show tt Zi d 167 (56, [some (.inr (.inl 30)), some (.inl k_), some (.inl l_), some (.inl wh), some (.inl (z + 1))], [], n, D, s33, p, c) _
            replace k35 : ((s12 3050) = 0 → (s33 3050) = 7 ∧ (s33 3051) = wh) := k35
            replace k36 : ((s12 3050) ≠ 0 → (s33 3050) = (s12 3050) ∧ (s33 3051) = (s12 3051)) := k36
            have b37 : 0 ≤ (s33 3050) ∧ (s33 3050) ≤ 8 := hS33 3050
            have b38 : -1 ≤ (s33 3051) ∧ (s33 3051) ≤ 32769 := hS33 3051
            have b39 : -1 ≤ (s12 3051) ∧ (s12 3051) ≤ 32769 := hS12 3051
            have e40 : s33 3025 = (s12 3025) := (f34 3025 (by decide))
            have b41 : 0 ≤ (s33 3025) ∧ (s33 3025) ≤ 31 := hS33 3025
            have e42 : s33 3049 = (s12 3049) := (f34 3049 (by decide))
            have b43 : 0 ≤ (s33 3049) ∧ (s33 3049) ≤ 32769 := hS33 3049
            have e44 : s33 3014 = (s12 3014) := (f34 3014 (by decide))
            have b45 : 0 ≤ (s33 3014) ∧ (s33 3014) ≤ 32768 := hS33 3014
            have hx46 : tpl A (s33 3014) (c 34) := by rw [f34 3014 (by decide)]; exact hx29
            refine tt_k 1 (S' := (12, [some (.inr (.inl 30)), some (.inl k_), some (.inl l_), some (.inl wh), some (.inl (z + 1))], [], n, D, s33, p, c)) rfl ?_
            obtain ⟨mz, hm1, hm2⟩ := i1 (by omega)
            have hff : s33 3050 ≠ 0 := by have h := k35 (by omega); omega
            exact ih (z + 1) s33 (by omega) hS33 (fr_tr (fr_tr hF0 f14 (by decide)) f34 (by decide)) (fun h => absurd h hff) (fun h => absurd h hff) (fun _ => rdZ_f hm2 (show rdBit A (s0 3049, s0 3052, s0 3054) = some (0, _) by have h := k16 (by omega); rw [show r13 = 0 by omega] at h; exact h) (by omega)) (show (s33 3049) ≤ s 3014 by omega) (show (z + 1) ≤ l_ - s 3025 by omega) (show (if (s33 3050) = 0 then l_ - s 3025 - (z + 1) + 1 else 0).toNat < m by omega)
set_option maxRecDepth 100000 in
set_option maxHeartbeats 4000000 in
theorem y_number {Zi : Nat → Option (Nat × (Nat → Int))} {d n : Nat} {D : Nat → Nat × Nat} {s : Nat → Int} {p : Nat → Nat} {c : Nat → Nat → Int} (hd : 4 ≤ d) (hS : bS s) (hC : bC D c) (A : TN) (k_ : Int) (l_ : Int) (b_k_ : 0 ≤ k_ ∧ k_ ≤ 16) (b_l_ : 1 ≤ l_ ∧ l_ ≤ 96) (hp0 : tpl A (s 3014) (c 34)) (hp1 : s 3050 = 0) (hp2 : (0 ≤ s 3054 ∧ s 3054 ≤ 8) ∧ (0 ≤ s 3052 ∧ s 3052 ≤ 255)) (hp3 : s 3049 ≤ s 3014) (hp4 : 0 ≤ (l_ - s 3025 - 1) ∧ (l_ - s 3025 - 1) ≤ 63 ∧ 0 ≤ s 3025 ∧ s 3025 ≤ 16) : tt Zi d 167 (0, [some (.inr (.inl 30)), some (.inl k_), some (.inl l_), none, none], [], n, D, s, p, c) (fun R H => ∃ (s' : Nat → Int) (r : Int), R = .inl (some (.inl r)) ∧ H = (n, D, s', p, c) ∧ bS s' ∧ fr s s' [3049, 3050, 3051, 3052, 3053, 3054] ∧ (0 ≤ r ∧ r ≤ 1073741823) ∧ (s' 3050 = 0 → rdNum A k_ (l_ - s 3025 - 1) (s 3025) (s 3049, s 3052, s 3054) = some (r, s' 3049, s' 3052, s' 3054)) ∧ (s' 3050 ≠ 0 → rdNum A k_ (l_ - s 3025 - 1) (s 3025) (s 3049, s 3052, s 3054) = none) ∧ (s' 3050 = 0 → (0 ≤ s' 3054 ∧ s' 3054 ≤ 8) ∧ (0 ≤ s' 3052 ∧ s' 3052 ≤ 255)) ∧ (s' 3049 ≤ s 3014)) := by
  refine tt_k 1 (S' := (1, [some (.inr (.inl 30)), some (.inl k_), some (.inl l_), none, none], [.inr (.inl 30)], n, D, s, p, c)) rfl ?_
  have b1 : 0 ≤ (s 3014) ∧ (s 3014) ≤ 32768 := hS 3014
  have b2 : 0 ≤ (s 3050) ∧ (s 3050) ≤ 8 := hS 3050
  have b3 : 0 ≤ (s 3054) ∧ (s 3054) ≤ 8 := hS 3054
  have b4 : 0 ≤ (s 3052) ∧ (s 3052) ≤ 255 := hS 3052
  have b5 : 0 ≤ (s 3049) ∧ (s 3049) ≤ 32769 := hS 3049
  refine tt_cl (by omega) rfl (y_ready (Zi := Zi) (D := D) (s := s) (p := p) (c := c) (by omega) hS hC A hp0 (show (s 3050) = 0 by omega) (show (0 ≤ (s 3054) ∧ (s 3054) ≤ 8) ∧ (0 ≤ (s 3052) ∧ (s 3052) ≤ 255) by omega) (show (s 3049) ≤ (s 3014) by omega)) ?_
  rintro _ _ ⟨s6, rfl, rfl, hS6, f7, k8, k9, k10, k11⟩
  show tt Zi d 167 (4, [some (.inr (.inl 30)), some (.inl k_), some (.inl l_), none, none], [], n, D, s6, p, c) _
  replace k8 : (s6 3050) = 0 → rdRdy A ((s 3049), (s 3052), (s 3054)) = some ((s6 3049), (s6 3052), (s6 3054)) := k8
  replace k9 : (s6 3050) ≠ 0 → rdRdy A ((s 3049), (s 3052), (s 3054)) = none := k9
  replace k10 : (s6 3050) = 0 → (1 ≤ (s6 3054) ∧ (s6 3054) ≤ 8) ∧ (0 ≤ (s6 3052) ∧ (s6 3052) ≤ 255) := k10
  replace k11 : (s6 3049) ≤ (s 3014) := k11
  have b12 : 0 ≤ (s6 3050) ∧ (s6 3050) ≤ 8 := hS6 3050
  have b13 : 0 ≤ (s6 3049) ∧ (s6 3049) ≤ 32769 := hS6 3049
  have b14 : 0 ≤ (s6 3052) ∧ (s6 3052) ≤ 255 := hS6 3052
  have b15 : 0 ≤ (s6 3054) ∧ (s6 3054) ≤ 8 := hS6 3054
  have e16 : s6 3025 = (s 3025) := (f7 3025 (by decide))
  have b17 : 0 ≤ (s6 3025) ∧ (s6 3025) ≤ 31 := hS6 3025
  have b18 : 0 ≤ (s 3025) ∧ (s 3025) ≤ 31 := hS 3025
  have e19 : s6 3014 = (s 3014) := (f7 3014 (by decide))
  have b20 : 0 ≤ (s6 3014) ∧ (s6 3014) ≤ 32768 := hS6 3014
  have hx21 : tpl A (s6 3014) (c 34) := by rw [f7 3014 (by decide)]; exact hp0
  refine tt_k 5 (S' := (12, [some (.inr (.inl 30)), some (.inl k_), some (.inl l_), some (.inl (s6 3053)), some (.inl 0)], [], n, D, s6, p, c)) rfl ?_
  have eQ : s6 3025 = s 3025 := f7 3025 (by decide)
  have b22 : 0 ≤ (s6 3053) ∧ (s6 3053) ≤ 32768 := hS6 3053
  refine y_number_L12 (Zi := Zi) (D := D) (s := s6) (p := p) (c := c) hd hS6 hC A (rdZ A (l_ - s 3025 - 1) 70 0 (s 3049, s 3052, s 3054)) k_ l_ (s6 3053) (by omega) (by omega) (by omega) hx21 (show 0 ≤ (l_ - (s6 3025) - 1) ∧ (l_ - (s6 3025) - 1) ≤ 63 ∧ 0 ≤ (s6 3025) ∧ (s6 3025) ≤ 16 by omega) ?_ _ 0 s6 (by omega) hS6 fr_rf (show (s6 3050) = 0 → 0 ≤ (l_ - (s6 3025) - 1) ∧ ((0 ≤ (s6 3054) ∧ (s6 3054) ≤ 8) ∧ (0 ≤ (s6 3052) ∧ (s6 3052) ≤ 255)) by omega) (fun hf => ⟨70, by omega, by rw [eQ]; exact rdZ_rr (k8 hf) (by have h := k10 hf; omega)⟩) (fun hf => zI_0n (rdBit_rn (k9 hf))) (show (s6 3049) ≤ (s6 3014) by omega) (show 0 ≤ l_ - (s6 3025) by omega) (Nat.lt_succ_self _)
  intro x23 s24 b25 hS24 f26 i27 i28 i29 i30 i31 hx32
  show tt Zi d 167 (59, [some (.inr (.inl 30)), some (.inl k_), some (.inl l_), some (.inl (s6 3053)), some (.inl x23)], [], n, D, s24, p, c) _
  have e33 : s24 3025 = (s6 3025) := (f26 3025 (by decide))
  have b34 : 0 ≤ (s24 3025) ∧ (s24 3025) ≤ 31 := hS24 3025
  have e35 : s24 3014 = (s6 3014) := (f26 3014 (by decide))
  have b36 : 0 ≤ (s24 3014) ∧ (s24 3014) ≤ 32768 := hS24 3014
  have hx37 : tpl A (s24 3014) (c 34) := by rw [f26 3014 (by decide)]; exact hx21
  refine tt_k 2 (S' := (63, [some (.inr (.inl 30)), some (.inl k_), some (.inl l_), some (.inl (s6 3053)), some (.inl x23)], [.inl (s24 3050)], n, D, s24, p, c)) rfl ?_
  have b38 : 0 ≤ (s24 3050) ∧ (s24 3050) ≤ 8 := hS24 3050
  refine tz_le (x := (s24 3050)) rfl rfl (by omega) (fun h39 => ?_) (fun h39 => ?_)
  · show tt Zi d 167 (68, [some (.inr (.inl 30)), some (.inl k_), some (.inl l_), some (.inl (s6 3053)), some (.inl x23)], [], n, D, s24, p, c) _
    refine tt_k 7 (S' := (78, [some (.inr (.inl 30)), some (.inl k_), some (.inl l_), some (.inl (s6 3053)), some (.inl x23)], [.inl (((l_ - (s24 3025)) - 1)), .inl x23], n, D, s24, p, c)) rfl ?_
    refine tb_ge (x := x23) (y := ((l_ - (s24 3025)) - 1)) rfl rfl (by omega) (fun h40 => ?_) (fun h40 => ?_)
    · show tt Zi d 167 (94, [some (.inr (.inl 30)), some (.inl k_), some (.inl l_), some (.inl (s6 3053)), some (.inl x23)], [], n, D, s24, p, c) _
      refine tt_k 3 (S' := (99, [some (.inr (.inl 30)), some (.inl k_), some (.inl l_), some (.inl (s6 3053)), some (.inl x23)], [.inl (s24 3025), .inr (.inl 30)], n, D, s24, p, c)) rfl ?_
      have b41 : 0 ≤ (s24 3054) ∧ (s24 3054) ≤ 8 := hS24 3054
      have b42 : 0 ≤ (s24 3052) ∧ (s24 3052) ≤ 255 := hS24 3052
      have b43 : 0 ≤ (s24 3049) ∧ (s24 3049) ≤ 32769 := hS24 3049
      refine tt_cl (by omega) rfl (y_bits (Zi := Zi) (D := D) (s := s24) (p := p) (c := c) (by omega) hS24 hC A (s24 3025) (by omega) hx37 (show (s24 3050) = 0 by omega) (show (0 ≤ (s24 3054) ∧ (s24 3054) ≤ 8) ∧ (0 ≤ (s24 3052) ∧ (s24 3052) ≤ 255) by omega) (show (s24 3049) ≤ (s24 3014) by omega)) ?_
      rintro _ _ ⟨s44, r45, rfl, rfl, hS44, f46, b47, k48, k49, k50, k51, k52⟩
      show tt Zi d 167 (102, [some (.inr (.inl 30)), some (.inl k_), some (.inl l_), some (.inl (s6 3053)), some (.inl x23)], [.inl r45], n, D, s44, p, c) _
      replace k48 : (s44 3050) = 0 → rdBs A ((s24 3025) : Int).toNat 0 ((s24 3049), (s24 3052), (s24 3054)) = some (r45, (s44 3049), (s44 3052), (s44 3054)) := k48
      replace k49 : (s44 3050) ≠ 0 → rdBs A ((s24 3025) : Int).toNat 0 ((s24 3049), (s24 3052), (s24 3054)) = none := k49
      replace k50 : r45 < 2 ^ ((s24 3025) : Int).toNat := k50
      replace k51 : (s44 3050) = 0 → (0 ≤ (s44 3054) ∧ (s44 3054) ≤ 8) ∧ (0 ≤ (s44 3052) ∧ (s44 3052) ≤ 255) := k51
      replace k52 : (s44 3049) ≤ (s24 3014) := k52
      have b53 : 0 ≤ (s44 3050) ∧ (s44 3050) ≤ 8 := hS44 3050
      have b54 : 0 ≤ (s44 3049) ∧ (s44 3049) ≤ 32769 := hS44 3049
      have b55 : 0 ≤ (s44 3052) ∧ (s44 3052) ≤ 255 := hS44 3052
      have b56 : 0 ≤ (s44 3054) ∧ (s44 3054) ≤ 8 := hS44 3054
      have e57 : s44 3025 = (s24 3025) := (f46 3025 (by decide))
      have b58 : 0 ≤ (s44 3025) ∧ (s44 3025) ≤ 31 := hS44 3025
      have e59 : s44 3014 = (s24 3014) := (f46 3014 (by decide))
      have b60 : 0 ≤ (s44 3014) ∧ (s44 3014) ≤ 32768 := hS44 3014
      have hx61 : tpl A (s44 3014) (c 34) := by rw [f46 3014 (by decide)]; exact hx37
      have hq16 := mi_pw (a := ((s24 3025)).toNat) (b := 16) (by omega)
      have hq17 : (2 : Int) ^ 16 = 65536 := by decide
      have hqz : (s24 3025) = s 3025 := by omega
      refine tt_k 2 (S' := (104, [some (.inr (.inl 30)), some (.inl k_), some (.inl l_), some (.inl (s6 3053)), some (.inl x23)], [.inl (r45 + 1)], n, D, s44, p, c)) rfl ?_
      exact tt_rti rfl rfl ⟨s44, (r45 + 1), rfl, rfl, hS44, (fr_tr (fr_tr (fr_tr fr_rf f7 (by decide)) f26 (by decide)) f46 (by decide)), by omega, by show (s44 3050) = 0 → rdNum A k_ (l_ - s 3025 - 1) (s 3025) (s 3049, s 3052, s 3054) = some ((r45 + 1), (s44 3049), (s44 3052), (s44 3054)); intro hf; have h := num_d (k := k_) (wb := s 3025) (i27 (by omega)) (by omega) (by have h9 := k48 hf; rw [hqz] at h9; exact h9); rw [Int.add_comm] at h; exact h, by show (s44 3050) ≠ 0 → rdNum A k_ (l_ - s 3025 - 1) (s 3025) (s 3049, s 3052, s 3054) = none; intro hf; exact num_b (k := k_) (wb := s 3025) (i27 (by omega)) (by omega) (by have h9 := k49 hf; rw [hqz] at h9; exact h9), by show (s44 3050) = 0 → (0 ≤ (s44 3054) ∧ (s44 3054) ≤ 8) ∧ (0 ≤ (s44 3052) ∧ (s44 3052) ≤ 255); omega, by show (s44 3049) ≤ s 3014; omega⟩
    · show tt Zi d 167 (81, [some (.inr (.inl 30)), some (.inl k_), some (.inl l_), some (.inl (s6 3053)), some (.inl x23)], [], n, D, s24, p, c) _
      refine tt_k 5 (S' := (87, [some (.inr (.inl 30)), some (.inl k_), some (.inl l_), some (.inl (s6 3053)), some (.inl x23)], [.inl k_, .inr (.inl 30), .inl (mi_shl x23 k_)], n, D, s24, p, c)) rfl ?_
      have b62 : 0 ≤ (s24 3054) ∧ (s24 3054) ≤ 8 := hS24 3054
      have b63 : 0 ≤ (s24 3052) ∧ (s24 3052) ≤ 255 := hS24 3052
      have b64 : 0 ≤ (s24 3049) ∧ (s24 3049) ≤ 32769 := hS24 3049
      refine tt_cl (by omega) rfl (y_bits (Zi := Zi) (D := D) (s := s24) (p := p) (c := c) (by omega) hS24 hC A k_ (by omega) hx37 (show (s24 3050) = 0 by omega) (show (0 ≤ (s24 3054) ∧ (s24 3054) ≤ 8) ∧ (0 ≤ (s24 3052) ∧ (s24 3052) ≤ 255) by omega) (show (s24 3049) ≤ (s24 3014) by omega)) ?_
      rintro _ _ ⟨s65, r66, rfl, rfl, hS65, f67, b68, k69, k70, k71, k72, k73⟩
      show tt Zi d 167 (90, [some (.inr (.inl 30)), some (.inl k_), some (.inl l_), some (.inl (s6 3053)), some (.inl x23)], [.inl r66, .inl (mi_shl x23 k_)], n, D, s65, p, c) _
      replace k69 : (s65 3050) = 0 → rdBs A (k_ : Int).toNat 0 ((s24 3049), (s24 3052), (s24 3054)) = some (r66, (s65 3049), (s65 3052), (s65 3054)) := k69
      replace k70 : (s65 3050) ≠ 0 → rdBs A (k_ : Int).toNat 0 ((s24 3049), (s24 3052), (s24 3054)) = none := k70
      replace k71 : r66 < 2 ^ (k_ : Int).toNat := k71
      replace k72 : (s65 3050) = 0 → (0 ≤ (s65 3054) ∧ (s65 3054) ≤ 8) ∧ (0 ≤ (s65 3052) ∧ (s65 3052) ≤ 255) := k72
      replace k73 : (s65 3049) ≤ (s24 3014) := k73
      have b74 : 0 ≤ (s65 3050) ∧ (s65 3050) ≤ 8 := hS65 3050
      have b75 : 0 ≤ (s65 3049) ∧ (s65 3049) ≤ 32769 := hS65 3049
      have b76 : 0 ≤ (s65 3052) ∧ (s65 3052) ≤ 255 := hS65 3052
      have b77 : 0 ≤ (s65 3054) ∧ (s65 3054) ≤ 8 := hS65 3054
      have e78 : s65 3025 = (s24 3025) := (f67 3025 (by decide))
      have b79 : 0 ≤ (s65 3025) ∧ (s65 3025) ≤ 31 := hS65 3025
      have e80 : s65 3014 = (s24 3014) := (f67 3014 (by decide))
      have b81 : 0 ≤ (s65 3014) ∧ (s65 3014) ≤ 32768 := hS65 3014
      have hx82 : tpl A (s65 3014) (c 34) := by rw [f67 3014 (by decide)]; exact hx37
      have hq16 := mi_pw (a := (k_).toNat) (b := 16) (by omega)
      have hq17 : (2 : Int) ^ 16 = 65536 := by decide
      have hor := mi_or_add (z := x23) (k := k_) (v := r66) (by omega) (by omega) (by omega)
      have hsb := sh_bd (z := x23) (k := k_) (by omega) (by omega)
      have hsn : 0 ≤ x23 * 2 ^ k_.toNat := Int.mul_nonneg (by omega) (Int.le_of_lt (Int.pow_pos (by decide)))
      have hsc : x23 * 2 ^ k_.toNat ≤ x23 * 2 ^ 16 := Int.mul_le_mul_of_nonneg_left hq16 (by omega)
      refine tt_k 2 (S' := (104, [some (.inr (.inl 30)), some (.inl k_), some (.inl l_), some (.inl (s6 3053)), some (.inl x23)], [.inl (mi_or (mi_shl x23 k_) r66)], n, D, s65, p, c)) rfl ?_
      have e83 := mi_shl_bd x23 k_
      have e84 := mi_or_bd (mi_shl x23 k_) r66
      exact tt_rti rfl rfl ⟨s65, (mi_or (mi_shl x23 k_) r66), rfl, rfl, hS65, (fr_tr (fr_tr (fr_tr fr_rf f7 (by decide)) f26 (by decide)) f67 (by decide)), by omega, by show (s65 3050) = 0 → rdNum A k_ (l_ - s 3025 - 1) (s 3025) (s 3049, s 3052, s 3054) = some ((mi_or (mi_shl x23 k_) r66), (s65 3049), (s65 3052), (s65 3054)); intro hf; have h := num_c (k := k_) (wb := s 3025) (i27 (by omega)) (by omega) (k69 hf); rw [← hor] at h; exact h, by show (s65 3050) ≠ 0 → rdNum A k_ (l_ - s 3025 - 1) (s 3025) (s 3049, s 3052, s 3054) = none; intro hf; exact num_a (k := k_) (wb := s 3025) (i27 (by omega)) (by omega) (k70 hf), by show (s65 3050) = 0 → (0 ≤ (s65 3054) ∧ (s65 3054) ≤ 8) ∧ (0 ≤ (s65 3052) ∧ (s65 3052) ≤ 255); omega, by show (s65 3049) ≤ s 3014; omega⟩
  · show tt Zi d 167 (66, [some (.inr (.inl 30)), some (.inl k_), some (.inl l_), some (.inl (s6 3053)), some (.inl x23)], [], n, D, s24, p, c) _
    refine tt_k 1 (S' := (67, [some (.inr (.inl 30)), some (.inl k_), some (.inl l_), some (.inl (s6 3053)), some (.inl x23)], [.inl 0], n, D, s24, p, c)) rfl ?_
    exact tt_rti rfl rfl ⟨s24, 0, rfl, rfl, hS24, (fr_tr (fr_tr fr_rf f7 (by decide)) f26 (by decide)), by omega, by show (s24 3050) = 0 → rdNum A k_ (l_ - s 3025 - 1) (s 3025) (s 3049, s 3052, s 3054) = some (0, (s24 3049), (s24 3052), (s24 3054)); intro hf; exact absurd hf (by omega), by show (s24 3050) ≠ 0 → rdNum A k_ (l_ - s 3025 - 1) (s 3025) (s 3049, s 3052, s 3054) = none; intro hf; exact num_n (i28 hf), by show (s24 3050) = 0 → (0 ≤ (s24 3054) ∧ (s24 3054) ≤ 8) ∧ (0 ≤ (s24 3052) ∧ (s24 3052) ≤ 255); omega, by show (s24 3049) ≤ s 3014; omega⟩
