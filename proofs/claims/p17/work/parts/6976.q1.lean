/-! the reference's tape reader, exactly -/
theorem rdBit_r {A : TN} {d : RDT} {a b l : Int} (h : rdRdy A d = some (a, b, l)) : rdBit A d = some (b / 2 ^ (l - 1).toNat % 2, a, b, l - 1) := by
  unfold rdBit
  rw [h, bd_s]
theorem rdBit_rn {A : TN} {d : RDT} (h : rdRdy A d = none) : rdBit A d = none := by
  unfold rdBit
  rw [h, bd_n]
/-- to be ready twice is to be ready -/
theorem rdBit_rr {A : TN} {d : RDT} {a b l : Int} (h : rdRdy A d = some (a, b, l)) (hl : 1 ≤ l) : rdBit A (a, b, l) = rdBit A d := by
  rw [rdBit_r h, rdBit_l (by omega)]
theorem rdZ_rr {A : TN} {d : RDT} {a b l zm z : Int} {m : Nat} (h : rdRdy A d = some (a, b, l)) (hl : 1 ≤ l) : rdZ A zm (m + 1) z (a, b, l) = rdZ A zm (m + 1) z d := by
  rw [rdZ, rdZ, rdBit_rr h hl]
theorem rdZ_n {A : TN} {d : RDT} {zm z : Int} {m : Nat} {R : Option (Int × RDT)} (h : rdZ A zm m z d = R) (hb : rdBit A d = none) : R = none := by
  cases m with
  | zero => exact h.symm
  | succ k => rw [rdZ, hb, bd_n] at h; exact h.symm
theorem rdZ_f {A : TN} {d e : RDT} {zm z : Int} {m : Nat} {R : Option (Int × RDT)} (h : rdZ A zm m z d = R) (hb : rdBit A d = some (0, e)) (hz : zm ≤ z) : R = none := by
  cases m with
  | zero => exact h.symm
  | succ k => rw [rdZ, hb, bd_s, if_pos rfl, if_pos hz] at h; exact h.symm
theorem rdZ_s {A : TN} {d e : RDT} {zm z : Int} {m : Nat} {R : Option (Int × RDT)} (h : rdZ A zm (m + 1) z d = R) (hb : rdBit A d = some (0, e)) (hz : z < zm) : rdZ A zm m (z + 1) e = R := by
  rw [rdZ, hb, bd_s, if_pos rfl, if_neg (by omega)] at h
  exact h
theorem rdZ_1 {A : TN} {d e : RDT} {zm z b : Int} {m : Nat} {R : Option (Int × RDT)} (h : rdZ A zm (m + 1) z d = R) (hb : rdBit A d = some (b, e)) (h1 : b ≠ 0) : R = some (z, e) := by
  rw [rdZ, hb, bd_s, if_neg h1] at h
  exact h.symm
theorem mi_or_add {z v k : Int} (hz : 0 ≤ z ∧ z ≤ 63) (hk : 0 ≤ k ∧ k ≤ 16) (hv : 0 ≤ v ∧ v < 2 ^ k.toNat) : mi_or (mi_shl z k) v = z * 2 ^ k.toNat + v := by
  have hb := sh_bd hz hk
  have hp : (2 : Int) ^ k.toNat ≤ 2 ^ 16 := mi_pw (by omega)
  have hp2 : (2 : Int) ^ 16 = 65536 := by decide
  rw [mi_shlg hz.1 hk.1 (by omega) hb]
  have hn : ∀ x : Int, 0 ≤ x ∧ x ≤ 2147483647 → ((Int32.ofInt x).toBitVec.toNat : Int) = x := by
    intro x hx
    have e : (Int32.ofInt x).toInt = x := mi_ti (by omega)
    have e2 : (Int32.ofInt x).toBitVec.toInt = x := e
    rw [BitVec.toInt_eq_toNat_cond] at e2
    have hl := (Int32.ofInt x).toBitVec.isLt
    split at e2 <;> omega
  have hzp : 0 ≤ z * 2 ^ k.toNat := Int.mul_nonneg hz.1 (Int.le_of_lt (Int.pow_pos (by decide)))
  have h1 := hn (z * 2 ^ k.toNat) ⟨hzp, hb⟩
  have h2 := hn v (by omega)
  have hz63 : z * 2 ^ k.toNat ≤ z * 2 ^ 16 := Int.mul_le_mul_of_nonneg_left hp hz.1
  generalize ha : (Int32.ofInt (z * 2 ^ k.toNat)).toBitVec.toNat = a at h1
  generalize hb2 : (Int32.ofInt v).toBitVec.toNat = b at h2
  have hak : a = z.toNat * 2 ^ k.toNat := by
    have e : ((z.toNat * 2 ^ k.toNat : Nat) : Int) = z * 2 ^ k.toNat := by
      rw [Int.natCast_mul, Int.natCast_pow, show (z.toNat : Int) = z by omega]
      rfl
    omega
  have hbk : b < 2 ^ k.toNat := by
    have e : ((2 ^ k.toNat : Nat) : Int) = 2 ^ k.toNat := by
      rw [Int.natCast_pow]
      rfl
    omega
  have hor : (Int32.ofInt (z * 2 ^ k.toNat) ||| Int32.ofInt v).toBitVec.toNat = a + b := by
    rw [Int32.toBitVec_or, BitVec.toNat_or, ha, hb2, hak, ← Nat.shiftLeft_eq, Nat.shiftLeft_add_eq_or_of_lt hbk]
  show (Int32.ofInt (z * 2 ^ k.toNat) ||| Int32.ofInt v).toBitVec.toInt = _
  rw [BitVec.toInt_eq_toNat_cond, hor, if_pos (by omega)]
  omega
set_option maxRecDepth 100000 in
set_option maxHeartbeats 4000000 in
theorem y_ready {Zi : Nat → Option (Nat × (Nat → Int))} {d n : Nat} {D : Nat → Nat × Nat} {s : Nat → Int} {p : Nat → Nat} {c : Nat → Nat → Int} (hd : 1 ≤ d) (hS : bS s) (hC : bC D c) (A : TN) (hp0 : tpl A (s 3014) (c 34)) (hp1 : s 3050 = 0) (hp2 : (0 ≤ s 3054 ∧ s 3054 ≤ 8) ∧ (0 ≤ s 3052 ∧ s 3052 ≤ 255)) (hp3 : s 3049 ≤ s 3014) : tt Zi d 165 (0, [some (.inr (.inl 30)), none], [], n, D, s, p, c) (fun R H => ∃ (s' : Nat → Int), R = .inl none ∧ H = (n, D, s', p, c) ∧ bS s' ∧ fr s s' [3049, 3050, 3051, 3052, 3053, 3054] ∧ (s' 3050 = 0 → rdRdy A (s 3049, s 3052, s 3054) = some (s' 3049, s' 3052, s' 3054)) ∧ (s' 3050 ≠ 0 → rdRdy A (s 3049, s 3052, s 3054) = none) ∧ (s' 3050 = 0 → (1 ≤ s' 3054 ∧ s' 3054 ≤ 8) ∧ (0 ≤ s' 3052 ∧ s' 3052 ≤ 255)) ∧ (s' 3049 ≤ s 3014)) := by
  have b1 : 0 ≤ (s 3049) ∧ (s 3049) ≤ 32769 := hS 3049
  have b2 : 0 ≤ (s 3052) ∧ (s 3052) ≤ 255 := hS 3052
  have b3 : 0 ≤ (s 3054) ∧ (s 3054) ≤ 8 := hS 3054
  have b4 : 0 ≤ (s 3014) ∧ (s 3014) ≤ 32768 := hS 3014
  have b5 : 0 ≤ (s 3050) ∧ (s 3050) ≤ 8 := hS 3050
  have hA := hp0.1
  have ha0 : s 3049 < s 3014 → A.1 (s 3049).toNat = c 34 (s 3049).toNat % 256 := fun h => (hp0.2 _ (by omega)).symm
  have ha1 : s 3049 + 1 < s 3014 → A.1 (s 3049 + 1).toNat = c 34 (s 3049 + 1).toNat % 256 := fun h => (hp0.2 _ (by omega)).symm
  refine tt_k 2 (S' := (4, [some (.inr (.inl 30)), none], [.inl (s 3054)], n, D, s, p, c)) rfl ?_
  refine tz_gt (x := (s 3054)) rfl rfl (by omega) (fun h6 => ?_) (fun h6 => ?_)
  · show tt Zi d 165 (14, [some (.inr (.inl 30)), none], [], n, D, s, p, c) _
    exact tt_rtv rfl rfl ⟨s, rfl, rfl, hS, fr_rf, by show (s 3050) = 0 → rdRdy A (s 3049, s 3052, s 3054) = some ((s 3049), (s 3052), (s 3054)); intro hf; unfold rdRdy rdOpen; show (if s 3054 = 0 then (if s 3049 < A.2 then (if A.1 (s 3049).toNat = 255 then (if s 3049 + 1 < A.2 then (if A.1 (s 3049 + 1).toNat < 128 then some (s 3049 + 1, A.1 (s 3049).toNat, (if s 3052 = 255 then (7 : Int) else 8)) else none) else none) else some (s 3049 + 1, A.1 (s 3049).toNat, (if s 3052 = 255 then (7 : Int) else 8))) else none) else some (s 3049, s 3052, s 3054)) = _; (repeat' split) <;> first | (exfalso; omega) | exact so3 (by omega) (by omega) (by omega), by show (s 3050) ≠ 0 → rdRdy A (s 3049, s 3052, s 3054) = none; intro hf; unfold rdRdy rdOpen; show (if s 3054 = 0 then (if s 3049 < A.2 then (if A.1 (s 3049).toNat = 255 then (if s 3049 + 1 < A.2 then (if A.1 (s 3049 + 1).toNat < 128 then some (s 3049 + 1, A.1 (s 3049).toNat, (if s 3052 = 255 then (7 : Int) else 8)) else none) else none) else some (s 3049 + 1, A.1 (s 3049).toNat, (if s 3052 = 255 then (7 : Int) else 8))) else none) else some (s 3049, s 3052, s 3054)) = _; (repeat' split) <;> first | rfl | (exfalso; omega), by show (s 3050) = 0 → (1 ≤ (s 3054) ∧ (s 3054) ≤ 8) ∧ (0 ≤ (s 3052) ∧ (s 3052) ≤ 255); omega, by show (s 3049) ≤ s 3014; omega⟩
  · show tt Zi d 165 (7, [some (.inr (.inl 30)), none], [], n, D, s, p, c) _
    refine tt_k 2 (S' := (11, [some (.inr (.inl 30)), none], [.inl (s 3050)], n, D, s, p, c)) rfl ?_
    refine tz_le (x := (s 3050)) rfl rfl (by omega) (fun h7 => ?_) (fun h7 => ?_)
    · show tt Zi d 165 (15, [some (.inr (.inl 30)), none], [], n, D, s, p, c) _
      refine tt_k 3 (S' := (22, [some (.inr (.inl 30)), none], [.inl 255, .inl (s 3052)], n, D, s, p, c)) rfl ?_
      refine tb_ne (x := (s 3052)) (y := 255) rfl rfl (by omega) (fun h8 => ?_) (fun h8 => ?_)
      · show tt Zi d 165 (29, [some (.inr (.inl 30)), none], [], n, D, s, p, c) _
        refine tt_k 6 (S' := (39, [some (.inr (.inl 30)), some (.inl 0)], [.inl (s 3014), .inl (s 3049)], n, D, s, p, c)) rfl ?_
        refine tb_lt (x := (s 3049)) (y := (s 3014)) rfl rfl (by omega) (fun h9 => ?_) (fun h9 => ?_)
        · show tt Zi d 165 (52, [some (.inr (.inl 30)), some (.inl 0)], [], n, D, s, p, c) _
          refine tt_k 9 (S' := (69, [some (.inr (.inl 30)), some (.inl 0)], [.inl (s 3049), .inr (.inl 34), .inr (.inl 30)], n, D, (us s 3053 (s 3049)), p, c)) rfl ?_
          refine tt_bldv (i := (s 3049)) (v := (c 34 ((s 3049)).toNat)) rfl rfl (by omega) rfl ?_
          show tt Zi d 165 (70, [some (.inr (.inl 30)), some (.inl 0)], [.inl ((c 34 ((s 3049)).toNat)), .inr (.inl 30)], n, D, (us s 3053 (s 3049)), p, c) _
          have b10 : -128 ≤ (c 34 ((s 3049)).toNat) ∧ (c 34 ((s 3049)).toNat) ≤ 127 := hC 34 _
          refine tt_k 12 (S' := (94, [some (.inr (.inl 30)), some (.inl 0)], [.inl 255, .inl ((mi_and (c 34 ((s 3049)).toNat) 255))], n, D, (us (us (us s 3053 (s 3049)) 3052 ((mi_and (c 34 ((s 3049)).toNat) 255))) 3049 ((s 3049) + 1)), p, c)) rfl ?_
          have e11 := mi_and255 ((c 34 ((s 3049)).toNat))
          refine tb_ne (x := (mi_and (c 34 ((s 3049)).toNat) 255)) (y := 255) rfl rfl (by omega) (fun h12 => ?_) (fun h12 => ?_)
          · show tt Zi d 165 (148, [some (.inr (.inl 30)), some (.inl 0)], [], n, D, (us (us (us s 3053 (s 3049)) 3052 ((mi_and (c 34 ((s 3049)).toNat) 255))) 3049 ((s 3049) + 1)), p, c) _
            refine tt_k 2 (S' := (150, [some (.inr (.inl 30)), some (.inl 0)], [.inl 0, .inr (.inl 30)], n, D, (us (us (us s 3053 (s 3049)) 3052 ((mi_and (c 34 ((s 3049)).toNat) 255))) 3049 ((s 3049) + 1)), p, c)) rfl ?_
            refine tz_eq (x := 0) rfl rfl (by omega) (fun h13 => ?_) (fun h13 => ?_)
            · show tt Zi d 165 (158, [some (.inr (.inl 30)), some (.inl 0)], [.inr (.inl 30)], n, D, (us (us (us s 3053 (s 3049)) 3052 ((mi_and (c 34 ((s 3049)).toNat) 255))) 3049 ((s 3049) + 1)), p, c) _
              refine tt_k 2 (S' := (163, [some (.inr (.inl 30)), some (.inl 0)], [], n, D, (us (us (us (us s 3053 (s 3049)) 3052 ((mi_and (c 34 ((s 3049)).toNat) 255))) 3049 ((s 3049) + 1)) 3054 8), p, c)) rfl ?_
              exact tt_rtv rfl rfl ⟨(us (us (us (us s 3053 (s 3049)) 3052 ((mi_and (c 34 ((s 3049)).toNat) 255))) 3049 ((s 3049) + 1)) 3054 8), rfl, rfl, (bS_us (bS_us (bS_us (bS_us hS (show 0 ≤ (s 3049) ∧ (s 3049) ≤ 32768 by omega)) (show 0 ≤ (mi_and (c 34 ((s 3049)).toNat) 255) ∧ (mi_and (c 34 ((s 3049)).toNat) 255) ≤ 255 by omega)) (show 0 ≤ ((s 3049) + 1) ∧ ((s 3049) + 1) ≤ 32769 by omega)) (show 0 ≤ 8 ∧ 8 ≤ 8 by omega)), (fr_us (by decide) (fr_us (by decide) (fr_us (by decide) (fr_us (by decide) fr_rf)))), by show (s 3050) = 0 → rdRdy A (s 3049, s 3052, s 3054) = some (((s 3049) + 1), ((mi_and (c 34 ((s 3049)).toNat) 255)), 8); intro hf; unfold rdRdy rdOpen; show (if s 3054 = 0 then (if s 3049 < A.2 then (if A.1 (s 3049).toNat = 255 then (if s 3049 + 1 < A.2 then (if A.1 (s 3049 + 1).toNat < 128 then some (s 3049 + 1, A.1 (s 3049).toNat, (if s 3052 = 255 then (7 : Int) else 8)) else none) else none) else some (s 3049 + 1, A.1 (s 3049).toNat, (if s 3052 = 255 then (7 : Int) else 8))) else none) else some (s 3049, s 3052, s 3054)) = _; (repeat' split) <;> first | (exfalso; omega) | exact so3 (by omega) (by omega) (by omega), by show (s 3050) ≠ 0 → rdRdy A (s 3049, s 3052, s 3054) = none; intro hf; unfold rdRdy rdOpen; show (if s 3054 = 0 then (if s 3049 < A.2 then (if A.1 (s 3049).toNat = 255 then (if s 3049 + 1 < A.2 then (if A.1 (s 3049 + 1).toNat < 128 then some (s 3049 + 1, A.1 (s 3049).toNat, (if s 3052 = 255 then (7 : Int) else 8)) else none) else none) else some (s 3049 + 1, A.1 (s 3049).toNat, (if s 3052 = 255 then (7 : Int) else 8))) else none) else some (s 3049, s 3052, s 3054)) = _; (repeat' split) <;> first | rfl | (exfalso; omega), by show (s 3050) = 0 → (1 ≤ 8 ∧ 8 ≤ 8) ∧ (0 ≤ ((mi_and (c 34 ((s 3049)).toNat) 255)) ∧ ((mi_and (c 34 ((s 3049)).toNat) 255)) ≤ 255); omega, by show ((s 3049) + 1) ≤ s 3014; omega⟩
            · exfalso; omega
          · show tt Zi d 165 (97, [some (.inr (.inl 30)), some (.inl 0)], [], n, D, (us (us (us s 3053 (s 3049)) 3052 ((mi_and (c 34 ((s 3049)).toNat) 255))) 3049 ((s 3049) + 1)), p, c) _
            refine tt_k 4 (S' := (105, [some (.inr (.inl 30)), some (.inl 0)], [.inl (s 3014), .inl ((s 3049) + 1)], n, D, (us (us (us s 3053 (s 3049)) 3052 ((mi_and (c 34 ((s 3049)).toNat) 255))) 3049 ((s 3049) + 1)), p, c)) rfl ?_
            refine tb_lt (x := ((s 3049) + 1)) (y := (s 3014)) rfl rfl (by omega) (fun h14 => ?_) (fun h14 => ?_)
            · show tt Zi d 165 (120, [some (.inr (.inl 30)), some (.inl 0)], [], n, D, (us (us (us s 3053 (s 3049)) 3052 ((mi_and (c 34 ((s 3049)).toNat) 255))) 3049 ((s 3049) + 1)), p, c) _
              refine tt_k 4 (S' := (128, [some (.inr (.inl 30)), some (.inl 0)], [.inl ((s 3049) + 1), .inr (.inl 34)], n, D, (us (us (us s 3053 (s 3049)) 3052 ((mi_and (c 34 ((s 3049)).toNat) 255))) 3049 ((s 3049) + 1)), p, c)) rfl ?_
              refine tt_bldv (i := ((s 3049) + 1)) (v := (c 34 (((s 3049) + 1)).toNat)) rfl rfl (by omega) rfl ?_
              show tt Zi d 165 (129, [some (.inr (.inl 30)), some (.inl 0)], [.inl ((c 34 (((s 3049) + 1)).toNat))], n, D, (us (us (us s 3053 (s 3049)) 3052 ((mi_and (c 34 ((s 3049)).toNat) 255))) 3049 ((s 3049) + 1)), p, c) _
              have b15 : -128 ≤ (c 34 (((s 3049) + 1)).toNat) ∧ (c 34 (((s 3049) + 1)).toNat) ≤ 127 := hC 34 _
              refine tt_k 3 (S' := (135, [some (.inr (.inl 30)), some (.inl 0)], [.inl 127, .inl ((mi_and (c 34 (((s 3049) + 1)).toNat) 255))], n, D, (us (us (us s 3053 (s 3049)) 3052 ((mi_and (c 34 ((s 3049)).toNat) 255))) 3049 ((s 3049) + 1)), p, c)) rfl ?_
              have e16 := mi_and255 ((c 34 (((s 3049) + 1)).toNat))
              refine tb_le (x := (mi_and (c 34 (((s 3049) + 1)).toNat) 255)) (y := 127) rfl rfl (by omega) (fun h17 => ?_) (fun h17 => ?_)
              · show tt Zi d 165 (148, [some (.inr (.inl 30)), some (.inl 0)], [], n, D, (us (us (us s 3053 (s 3049)) 3052 ((mi_and (c 34 ((s 3049)).toNat) 255))) 3049 ((s 3049) + 1)), p, c) _
                refine tt_k 2 (S' := (150, [some (.inr (.inl 30)), some (.inl 0)], [.inl 0, .inr (.inl 30)], n, D, (us (us (us s 3053 (s 3049)) 3052 ((mi_and (c 34 ((s 3049)).toNat) 255))) 3049 ((s 3049) + 1)), p, c)) rfl ?_
                refine tz_eq (x := 0) rfl rfl (by omega) (fun h18 => ?_) (fun h18 => ?_)
                · show tt Zi d 165 (158, [some (.inr (.inl 30)), some (.inl 0)], [.inr (.inl 30)], n, D, (us (us (us s 3053 (s 3049)) 3052 ((mi_and (c 34 ((s 3049)).toNat) 255))) 3049 ((s 3049) + 1)), p, c) _
                  refine tt_k 2 (S' := (163, [some (.inr (.inl 30)), some (.inl 0)], [], n, D, (us (us (us (us s 3053 (s 3049)) 3052 ((mi_and (c 34 ((s 3049)).toNat) 255))) 3049 ((s 3049) + 1)) 3054 8), p, c)) rfl ?_
                  exact tt_rtv rfl rfl ⟨(us (us (us (us s 3053 (s 3049)) 3052 ((mi_and (c 34 ((s 3049)).toNat) 255))) 3049 ((s 3049) + 1)) 3054 8), rfl, rfl, (bS_us (bS_us (bS_us (bS_us hS (show 0 ≤ (s 3049) ∧ (s 3049) ≤ 32768 by omega)) (show 0 ≤ (mi_and (c 34 ((s 3049)).toNat) 255) ∧ (mi_and (c 34 ((s 3049)).toNat) 255) ≤ 255 by omega)) (show 0 ≤ ((s 3049) + 1) ∧ ((s 3049) + 1) ≤ 32769 by omega)) (show 0 ≤ 8 ∧ 8 ≤ 8 by omega)), (fr_us (by decide) (fr_us (by decide) (fr_us (by decide) (fr_us (by decide) fr_rf)))), by show (s 3050) = 0 → rdRdy A (s 3049, s 3052, s 3054) = some (((s 3049) + 1), ((mi_and (c 34 ((s 3049)).toNat) 255)), 8); intro hf; unfold rdRdy rdOpen; show (if s 3054 = 0 then (if s 3049 < A.2 then (if A.1 (s 3049).toNat = 255 then (if s 3049 + 1 < A.2 then (if A.1 (s 3049 + 1).toNat < 128 then some (s 3049 + 1, A.1 (s 3049).toNat, (if s 3052 = 255 then (7 : Int) else 8)) else none) else none) else some (s 3049 + 1, A.1 (s 3049).toNat, (if s 3052 = 255 then (7 : Int) else 8))) else none) else some (s 3049, s 3052, s 3054)) = _; (repeat' split) <;> first | (exfalso; omega) | exact so3 (by omega) (by omega) (by omega), by show (s 3050) ≠ 0 → rdRdy A (s 3049, s 3052, s 3054) = none; intro hf; unfold rdRdy rdOpen; show (if s 3054 = 0 then (if s 3049 < A.2 then (if A.1 (s 3049).toNat = 255 then (if s 3049 + 1 < A.2 then (if A.1 (s 3049 + 1).toNat < 128 then some (s 3049 + 1, A.1 (s 3049).toNat, (if s 3052 = 255 then (7 : Int) else 8)) else none) else none) else some (s 3049 + 1, A.1 (s 3049).toNat, (if s 3052 = 255 then (7 : Int) else 8))) else none) else some (s 3049, s 3052, s 3054)) = _; (repeat' split) <;> first | rfl | (exfalso; omega), by show (s 3050) = 0 → (1 ≤ 8 ∧ 8 ≤ 8) ∧ (0 ≤ ((mi_and (c 34 ((s 3049)).toNat) 255)) ∧ ((mi_and (c 34 ((s 3049)).toNat) 255)) ≤ 255); omega, by show ((s 3049) + 1) ≤ s 3014; omega⟩
                · exfalso; omega
              · show tt Zi d 165 (138, [some (.inr (.inl 30)), some (.inl 0)], [], n, D, (us (us (us s 3053 (s 3049)) 3052 ((mi_and (c 34 ((s 3049)).toNat) 255))) 3049 ((s 3049) + 1)), p, c) _
                refine tt_k 4 (S' := (145, [some (.inr (.inl 30)), some (.inl 0)], [.inl (s 3049), .inl 7, .inr (.inl 30)], n, D, (us (us (us s 3053 (s 3049)) 3052 ((mi_and (c 34 ((s 3049)).toNat) 255))) 3049 ((s 3049) + 1)), p, c)) rfl ?_
                refine tt_cl (by omega) rfl (k_fail (Zi := Zi) (D := D) (s := (us (us (us s 3053 (s 3049)) 3052 ((mi_and (c 34 ((s 3049)).toNat) 255))) 3049 ((s 3049) + 1))) (p := p) (c := c) (by omega) (bS_us (bS_us (bS_us hS (show 0 ≤ (s 3049) ∧ (s 3049) ≤ 32768 by omega)) (show 0 ≤ (mi_and (c 34 ((s 3049)).toNat) 255) ∧ (mi_and (c 34 ((s 3049)).toNat) 255) ≤ 255 by omega)) (show 0 ≤ ((s 3049) + 1) ∧ ((s 3049) + 1) ≤ 32769 by omega)) hC 7 (s 3049) (by omega) (by omega)) ?_
                rintro _ _ ⟨s19, rfl, rfl, hS19, f20, k21, k22⟩
                show tt Zi d 165 (148, [some (.inr (.inl 30)), some (.inl 0)], [], n, D, s19, p, c) _
                replace k21 : ((s 3050) = 0 → (s19 3050) = 7 ∧ (s19 3051) = (s 3049)) := k21
                replace k22 : ((s 3050) ≠ 0 → (s19 3050) = (s 3050) ∧ (s19 3051) = (s 3051)) := k22
                have b23 : 0 ≤ (s19 3050) ∧ (s19 3050) ≤ 8 := hS19 3050
                have b24 : -1 ≤ (s19 3051) ∧ (s19 3051) ≤ 32769 := hS19 3051
                have b25 : -1 ≤ (s 3051) ∧ (s 3051) ≤ 32769 := hS 3051
                have e26 : s19 3049 = ((s 3049) + 1) := (f20 3049 (by decide))
                have b27 : 0 ≤ (s19 3049) ∧ (s19 3049) ≤ 32769 := hS19 3049
                have e28 : s19 3014 = (s 3014) := (f20 3014 (by decide))
                have b29 : 0 ≤ (s19 3014) ∧ (s19 3014) ≤ 32768 := hS19 3014
                have e30 : s19 3053 = (s 3049) := (f20 3053 (by decide))
                have b31 : 0 ≤ (s19 3053) ∧ (s19 3053) ≤ 32768 := hS19 3053
                have e32 : s19 3052 = (mi_and (c 34 ((s 3049)).toNat) 255) := (f20 3052 (by decide))
                have b33 : 0 ≤ (s19 3052) ∧ (s19 3052) ≤ 255 := hS19 3052
                have e34 : s19 3054 = (s 3054) := (f20 3054 (by decide))
                have b35 : 0 ≤ (s19 3054) ∧ (s19 3054) ≤ 8 := hS19 3054
                have hx36 : tpl A (s19 3014) (c 34) := by rw [f20 3014 (by decide)]; exact hp0
                refine tt_k 2 (S' := (150, [some (.inr (.inl 30)), some (.inl 0)], [.inl 0, .inr (.inl 30)], n, D, s19, p, c)) rfl ?_
                refine tz_eq (x := 0) rfl rfl (by omega) (fun h37 => ?_) (fun h37 => ?_)
                · show tt Zi d 165 (158, [some (.inr (.inl 30)), some (.inl 0)], [.inr (.inl 30)], n, D, s19, p, c) _
                  refine tt_k 2 (S' := (163, [some (.inr (.inl 30)), some (.inl 0)], [], n, D, (us s19 3054 8), p, c)) rfl ?_
                  exact tt_rtv rfl rfl ⟨(us s19 3054 8), rfl, rfl, (bS_us hS19 (show 0 ≤ 8 ∧ 8 ≤ 8 by omega)), (fr_us (by decide) (fr_tr (fr_us (by decide) (fr_us (by decide) (fr_us (by decide) fr_rf))) f20 (by decide))), by show (s19 3050) = 0 → rdRdy A (s 3049, s 3052, s 3054) = some ((s19 3049), (s19 3052), 8); intro hf; unfold rdRdy rdOpen; show (if s 3054 = 0 then (if s 3049 < A.2 then (if A.1 (s 3049).toNat = 255 then (if s 3049 + 1 < A.2 then (if A.1 (s 3049 + 1).toNat < 128 then some (s 3049 + 1, A.1 (s 3049).toNat, (if s 3052 = 255 then (7 : Int) else 8)) else none) else none) else some (s 3049 + 1, A.1 (s 3049).toNat, (if s 3052 = 255 then (7 : Int) else 8))) else none) else some (s 3049, s 3052, s 3054)) = _; (repeat' split) <;> first | (exfalso; omega) | exact so3 (by omega) (by omega) (by omega), by show (s19 3050) ≠ 0 → rdRdy A (s 3049, s 3052, s 3054) = none; intro hf; unfold rdRdy rdOpen; show (if s 3054 = 0 then (if s 3049 < A.2 then (if A.1 (s 3049).toNat = 255 then (if s 3049 + 1 < A.2 then (if A.1 (s 3049 + 1).toNat < 128 then some (s 3049 + 1, A.1 (s 3049).toNat, (if s 3052 = 255 then (7 : Int) else 8)) else none) else none) else some (s 3049 + 1, A.1 (s 3049).toNat, (if s 3052 = 255 then (7 : Int) else 8))) else none) else some (s 3049, s 3052, s 3054)) = _; (repeat' split) <;> first | rfl | (exfalso; omega), by show (s19 3050) = 0 → (1 ≤ 8 ∧ 8 ≤ 8) ∧ (0 ≤ (s19 3052) ∧ (s19 3052) ≤ 255); omega, by show (s19 3049) ≤ s 3014; omega⟩
                · exfalso; omega
            · show tt Zi d 165 (108, [some (.inr (.inl 30)), some (.inl 0)], [], n, D, (us (us (us s 3053 (s 3049)) 3052 ((mi_and (c 34 ((s 3049)).toNat) 255))) 3049 ((s 3049) + 1)), p, c) _
              refine tt_k 4 (S' := (114, [some (.inr (.inl 30)), some (.inl 0)], [.inl (s 3014), .inl 1, .inr (.inl 30)], n, D, (us (us (us s 3053 (s 3049)) 3052 ((mi_and (c 34 ((s 3049)).toNat) 255))) 3049 ((s 3049) + 1)), p, c)) rfl ?_
              refine tt_cl (by omega) rfl (k_fail (Zi := Zi) (D := D) (s := (us (us (us s 3053 (s 3049)) 3052 ((mi_and (c 34 ((s 3049)).toNat) 255))) 3049 ((s 3049) + 1))) (p := p) (c := c) (by omega) (bS_us (bS_us (bS_us hS (show 0 ≤ (s 3049) ∧ (s 3049) ≤ 32768 by omega)) (show 0 ≤ (mi_and (c 34 ((s 3049)).toNat) 255) ∧ (mi_and (c 34 ((s 3049)).toNat) 255) ≤ 255 by omega)) (show 0 ≤ ((s 3049) + 1) ∧ ((s 3049) + 1) ≤ 32769 by omega)) hC 1 (s 3014) (by omega) (by omega)) ?_
              rintro _ _ ⟨s38, rfl, rfl, hS38, f39, k40, k41⟩
              show tt Zi d 165 (117, [some (.inr (.inl 30)), some (.inl 0)], [], n, D, s38, p, c) _
              replace k40 : ((s 3050) = 0 → (s38 3050) = 1 ∧ (s38 3051) = (s 3014)) := k40
              replace k41 : ((s 3050) ≠ 0 → (s38 3050) = (s 3050) ∧ (s38 3051) = (s 3051)) := k41
              have b42 : 0 ≤ (s38 3050) ∧ (s38 3050) ≤ 8 := hS38 3050
              have b43 : -1 ≤ (s38 3051) ∧ (s38 3051) ≤ 32769 := hS38 3051
              have b44 : -1 ≤ (s 3051) ∧ (s 3051) ≤ 32769 := hS 3051
              have e45 : s38 3049 = ((s 3049) + 1) := (f39 3049 (by decide))
              have b46 : 0 ≤ (s38 3049) ∧ (s38 3049) ≤ 32769 := hS38 3049
              have e47 : s38 3014 = (s 3014) := (f39 3014 (by decide))
              have b48 : 0 ≤ (s38 3014) ∧ (s38 3014) ≤ 32768 := hS38 3014
              have e49 : s38 3053 = (s 3049) := (f39 3053 (by decide))
              have b50 : 0 ≤ (s38 3053) ∧ (s38 3053) ≤ 32768 := hS38 3053
              have e51 : s38 3052 = (mi_and (c 34 ((s 3049)).toNat) 255) := (f39 3052 (by decide))
              have b52 : 0 ≤ (s38 3052) ∧ (s38 3052) ≤ 255 := hS38 3052
              have e53 : s38 3054 = (s 3054) := (f39 3054 (by decide))
              have b54 : 0 ≤ (s38 3054) ∧ (s38 3054) ≤ 8 := hS38 3054
              have hx55 : tpl A (s38 3014) (c 34) := by rw [f39 3014 (by decide)]; exact hp0
              refine tt_k 3 (S' := (150, [some (.inr (.inl 30)), some (.inl 0)], [.inl 0, .inr (.inl 30)], n, D, s38, p, c)) rfl ?_
              refine tz_eq (x := 0) rfl rfl (by omega) (fun h56 => ?_) (fun h56 => ?_)
              · show tt Zi d 165 (158, [some (.inr (.inl 30)), some (.inl 0)], [.inr (.inl 30)], n, D, s38, p, c) _
                refine tt_k 2 (S' := (163, [some (.inr (.inl 30)), some (.inl 0)], [], n, D, (us s38 3054 8), p, c)) rfl ?_
                exact tt_rtv rfl rfl ⟨(us s38 3054 8), rfl, rfl, (bS_us hS38 (show 0 ≤ 8 ∧ 8 ≤ 8 by omega)), (fr_us (by decide) (fr_tr (fr_us (by decide) (fr_us (by decide) (fr_us (by decide) fr_rf))) f39 (by decide))), by show (s38 3050) = 0 → rdRdy A (s 3049, s 3052, s 3054) = some ((s38 3049), (s38 3052), 8); intro hf; unfold rdRdy rdOpen; show (if s 3054 = 0 then (if s 3049 < A.2 then (if A.1 (s 3049).toNat = 255 then (if s 3049 + 1 < A.2 then (if A.1 (s 3049 + 1).toNat < 128 then some (s 3049 + 1, A.1 (s 3049).toNat, (if s 3052 = 255 then (7 : Int) else 8)) else none) else none) else some (s 3049 + 1, A.1 (s 3049).toNat, (if s 3052 = 255 then (7 : Int) else 8))) else none) else some (s 3049, s 3052, s 3054)) = _; (repeat' split) <;> first | (exfalso; omega) | exact so3 (by omega) (by omega) (by omega), by show (s38 3050) ≠ 0 → rdRdy A (s 3049, s 3052, s 3054) = none; intro hf; unfold rdRdy rdOpen; show (if s 3054 = 0 then (if s 3049 < A.2 then (if A.1 (s 3049).toNat = 255 then (if s 3049 + 1 < A.2 then (if A.1 (s 3049 + 1).toNat < 128 then some (s 3049 + 1, A.1 (s 3049).toNat, (if s 3052 = 255 then (7 : Int) else 8)) else none) else none) else some (s 3049 + 1, A.1 (s 3049).toNat, (if s 3052 = 255 then (7 : Int) else 8))) else none) else some (s 3049, s 3052, s 3054)) = _; (repeat' split) <;> first | rfl | (exfalso; omega), by show (s38 3050) = 0 → (1 ≤ 8 ∧ 8 ≤ 8) ∧ (0 ≤ (s38 3052) ∧ (s38 3052) ≤ 255); omega, by show (s38 3049) ≤ s 3014; omega⟩
              · exfalso; omega
        · show tt Zi d 165 (42, [some (.inr (.inl 30)), some (.inl 0)], [], n, D, s, p, c) _
          refine tt_k 4 (S' := (48, [some (.inr (.inl 30)), some (.inl 0)], [.inl (s 3014), .inl 1, .inr (.inl 30)], n, D, s, p, c)) rfl ?_
          refine tt_cl (by omega) rfl (k_fail (Zi := Zi) (D := D) (s := s) (p := p) (c := c) (by omega) hS hC 1 (s 3014) (by omega) (by omega)) ?_
          rintro _ _ ⟨s57, rfl, rfl, hS57, f58, k59, k60⟩
          show tt Zi d 165 (51, [some (.inr (.inl 30)), some (.inl 0)], [], n, D, s57, p, c) _
          replace k59 : ((s 3050) = 0 → (s57 3050) = 1 ∧ (s57 3051) = (s 3014)) := k59
          replace k60 : ((s 3050) ≠ 0 → (s57 3050) = (s 3050) ∧ (s57 3051) = (s 3051)) := k60
          have b61 : 0 ≤ (s57 3050) ∧ (s57 3050) ≤ 8 := hS57 3050
          have b62 : -1 ≤ (s57 3051) ∧ (s57 3051) ≤ 32769 := hS57 3051
          have b63 : -1 ≤ (s 3051) ∧ (s 3051) ≤ 32769 := hS 3051
          have e64 : s57 3049 = (s 3049) := (f58 3049 (by decide))
          have b65 : 0 ≤ (s57 3049) ∧ (s57 3049) ≤ 32769 := hS57 3049
          have e66 : s57 3014 = (s 3014) := (f58 3014 (by decide))
          have b67 : 0 ≤ (s57 3014) ∧ (s57 3014) ≤ 32768 := hS57 3014
          have e68 : s57 3053 = (s 3053) := (f58 3053 (by decide))
          have b69 : 0 ≤ (s57 3053) ∧ (s57 3053) ≤ 32768 := hS57 3053
          have b70 : 0 ≤ (s 3053) ∧ (s 3053) ≤ 32768 := hS 3053
          have e71 : s57 3052 = (s 3052) := (f58 3052 (by decide))
          have b72 : 0 ≤ (s57 3052) ∧ (s57 3052) ≤ 255 := hS57 3052
          have e73 : s57 3054 = (s 3054) := (f58 3054 (by decide))
          have b74 : 0 ≤ (s57 3054) ∧ (s57 3054) ≤ 8 := hS57 3054
          have hx75 : tpl A (s57 3014) (c 34) := by rw [f58 3014 (by decide)]; exact hp0
          exact tt_rtv rfl rfl ⟨s57, rfl, rfl, hS57, (fr_tr fr_rf f58 (by decide)), by show (s57 3050) = 0 → rdRdy A (s 3049, s 3052, s 3054) = some ((s57 3049), (s57 3052), (s57 3054)); intro hf; unfold rdRdy rdOpen; show (if s 3054 = 0 then (if s 3049 < A.2 then (if A.1 (s 3049).toNat = 255 then (if s 3049 + 1 < A.2 then (if A.1 (s 3049 + 1).toNat < 128 then some (s 3049 + 1, A.1 (s 3049).toNat, (if s 3052 = 255 then (7 : Int) else 8)) else none) else none) else some (s 3049 + 1, A.1 (s 3049).toNat, (if s 3052 = 255 then (7 : Int) else 8))) else none) else some (s 3049, s 3052, s 3054)) = _; (repeat' split) <;> first | (exfalso; omega) | exact so3 (by omega) (by omega) (by omega), by show (s57 3050) ≠ 0 → rdRdy A (s 3049, s 3052, s 3054) = none; intro hf; unfold rdRdy rdOpen; show (if s 3054 = 0 then (if s 3049 < A.2 then (if A.1 (s 3049).toNat = 255 then (if s 3049 + 1 < A.2 then (if A.1 (s 3049 + 1).toNat < 128 then some (s 3049 + 1, A.1 (s 3049).toNat, (if s 3052 = 255 then (7 : Int) else 8)) else none) else none) else some (s 3049 + 1, A.1 (s 3049).toNat, (if s 3052 = 255 then (7 : Int) else 8))) else none) else some (s 3049, s 3052, s 3054)) = _; (repeat' split) <;> first | rfl | (exfalso; omega), by show (s57 3050) = 0 → (1 ≤ (s57 3054) ∧ (s57 3054) ≤ 8) ∧ (0 ≤ (s57 3052) ∧ (s57 3052) ≤ 255); omega, by show (s57 3049) ≤ s 3014; omega⟩
      · show tt Zi d 165 (25, [some (.inr (.inl 30)), none], [], n, D, s, p, c) _
        refine tt_k 7 (S' := (39, [some (.inr (.inl 30)), some (.inl 1)], [.inl (s 3014), .inl (s 3049)], n, D, s, p, c)) rfl ?_
        refine tb_lt (x := (s 3049)) (y := (s 3014)) rfl rfl (by omega) (fun h76 => ?_) (fun h76 => ?_)
        · show tt Zi d 165 (52, [some (.inr (.inl 30)), some (.inl 1)], [], n, D, s, p, c) _
          refine tt_k 9 (S' := (69, [some (.inr (.inl 30)), some (.inl 1)], [.inl (s 3049), .inr (.inl 34), .inr (.inl 30)], n, D, (us s 3053 (s 3049)), p, c)) rfl ?_
          refine tt_bldv (i := (s 3049)) (v := (c 34 ((s 3049)).toNat)) rfl rfl (by omega) rfl ?_
          show tt Zi d 165 (70, [some (.inr (.inl 30)), some (.inl 1)], [.inl ((c 34 ((s 3049)).toNat)), .inr (.inl 30)], n, D, (us s 3053 (s 3049)), p, c) _
          have b77 : -128 ≤ (c 34 ((s 3049)).toNat) ∧ (c 34 ((s 3049)).toNat) ≤ 127 := hC 34 _
          refine tt_k 12 (S' := (94, [some (.inr (.inl 30)), some (.inl 1)], [.inl 255, .inl ((mi_and (c 34 ((s 3049)).toNat) 255))], n, D, (us (us (us s 3053 (s 3049)) 3052 ((mi_and (c 34 ((s 3049)).toNat) 255))) 3049 ((s 3049) + 1)), p, c)) rfl ?_
          have e78 := mi_and255 ((c 34 ((s 3049)).toNat))
          refine tb_ne (x := (mi_and (c 34 ((s 3049)).toNat) 255)) (y := 255) rfl rfl (by omega) (fun h79 => ?_) (fun h79 => ?_)
          · show tt Zi d 165 (148, [some (.inr (.inl 30)), some (.inl 1)], [], n, D, (us (us (us s 3053 (s 3049)) 3052 ((mi_and (c 34 ((s 3049)).toNat) 255))) 3049 ((s 3049) + 1)), p, c) _
            refine tt_k 2 (S' := (150, [some (.inr (.inl 30)), some (.inl 1)], [.inl 1, .inr (.inl 30)], n, D, (us (us (us s 3053 (s 3049)) 3052 ((mi_and (c 34 ((s 3049)).toNat) 255))) 3049 ((s 3049) + 1)), p, c)) rfl ?_
            refine tz_eq (x := 1) rfl rfl (by omega) (fun h80 => ?_) (fun h80 => ?_)
            · exfalso; omega
            · show tt Zi d 165 (153, [some (.inr (.inl 30)), some (.inl 1)], [.inr (.inl 30)], n, D, (us (us (us s 3053 (s 3049)) 3052 ((mi_and (c 34 ((s 3049)).toNat) 255))) 3049 ((s 3049) + 1)), p, c) _
              refine tt_k 3 (S' := (163, [some (.inr (.inl 30)), some (.inl 1)], [], n, D, (us (us (us (us s 3053 (s 3049)) 3052 ((mi_and (c 34 ((s 3049)).toNat) 255))) 3049 ((s 3049) + 1)) 3054 7), p, c)) rfl ?_
              exact tt_rtv rfl rfl ⟨(us (us (us (us s 3053 (s 3049)) 3052 ((mi_and (c 34 ((s 3049)).toNat) 255))) 3049 ((s 3049) + 1)) 3054 7), rfl, rfl, (bS_us (bS_us (bS_us (bS_us hS (show 0 ≤ (s 3049) ∧ (s 3049) ≤ 32768 by omega)) (show 0 ≤ (mi_and (c 34 ((s 3049)).toNat) 255) ∧ (mi_and (c 34 ((s 3049)).toNat) 255) ≤ 255 by omega)) (show 0 ≤ ((s 3049) + 1) ∧ ((s 3049) + 1) ≤ 32769 by omega)) (show 0 ≤ 7 ∧ 7 ≤ 8 by omega)), (fr_us (by decide) (fr_us (by decide) (fr_us (by decide) (fr_us (by decide) fr_rf)))), by show (s 3050) = 0 → rdRdy A (s 3049, s 3052, s 3054) = some (((s 3049) + 1), ((mi_and (c 34 ((s 3049)).toNat) 255)), 7); intro hf; unfold rdRdy rdOpen; show (if s 3054 = 0 then (if s 3049 < A.2 then (if A.1 (s 3049).toNat = 255 then (if s 3049 + 1 < A.2 then (if A.1 (s 3049 + 1).toNat < 128 then some (s 3049 + 1, A.1 (s 3049).toNat, (if s 3052 = 255 then (7 : Int) else 8)) else none) else none) else some (s 3049 + 1, A.1 (s 3049).toNat, (if s 3052 = 255 then (7 : Int) else 8))) else none) else some (s 3049, s 3052, s 3054)) = _; (repeat' split) <;> first | (exfalso; omega) | exact so3 (by omega) (by omega) (by omega), by show (s 3050) ≠ 0 → rdRdy A (s 3049, s 3052, s 3054) = none; intro hf; unfold rdRdy rdOpen; show (if s 3054 = 0 then (if s 3049 < A.2 then (if A.1 (s 3049).toNat = 255 then (if s 3049 + 1 < A.2 then (if A.1 (s 3049 + 1).toNat < 128 then some (s 3049 + 1, A.1 (s 3049).toNat, (if s 3052 = 255 then (7 : Int) else 8)) else none) else none) else some (s 3049 + 1, A.1 (s 3049).toNat, (if s 3052 = 255 then (7 : Int) else 8))) else none) else some (s 3049, s 3052, s 3054)) = _; (repeat' split) <;> first | rfl | (exfalso; omega), by show (s 3050) = 0 → (1 ≤ 7 ∧ 7 ≤ 8) ∧ (0 ≤ ((mi_and (c 34 ((s 3049)).toNat) 255)) ∧ ((mi_and (c 34 ((s 3049)).toNat) 255)) ≤ 255); omega, by show ((s 3049) + 1) ≤ s 3014; omega⟩
          · show tt Zi d 165 (97, [some (.inr (.inl 30)), some (.inl 1)], [], n, D, (us (us (us s 3053 (s 3049)) 3052 ((mi_and (c 34 ((s 3049)).toNat) 255))) 3049 ((s 3049) + 1)), p, c) _
            refine tt_k 4 (S' := (105, [some (.inr (.inl 30)), some (.inl 1)], [.inl (s 3014), .inl ((s 3049) + 1)], n, D, (us (us (us s 3053 (s 3049)) 3052 ((mi_and (c 34 ((s 3049)).toNat) 255))) 3049 ((s 3049) + 1)), p, c)) rfl ?_
            refine tb_lt (x := ((s 3049) + 1)) (y := (s 3014)) rfl rfl (by omega) (fun h81 => ?_) (fun h81 => ?_)
            · show tt Zi d 165 (120, [some (.inr (.inl 30)), some (.inl 1)], [], n, D, (us (us (us s 3053 (s 3049)) 3052 ((mi_and (c 34 ((s 3049)).toNat) 255))) 3049 ((s 3049) + 1)), p, c) _
              refine tt_k 4 (S' := (128, [some (.inr (.inl 30)), some (.inl 1)], [.inl ((s 3049) + 1), .inr (.inl 34)], n, D, (us (us (us s 3053 (s 3049)) 3052 ((mi_and (c 34 ((s 3049)).toNat) 255))) 3049 ((s 3049) + 1)), p, c)) rfl ?_
              refine tt_bldv (i := ((s 3049) + 1)) (v := (c 34 (((s 3049) + 1)).toNat)) rfl rfl (by omega) rfl ?_
              show tt Zi d 165 (129, [some (.inr (.inl 30)), some (.inl 1)], [.inl ((c 34 (((s 3049) + 1)).toNat))], n, D, (us (us (us s 3053 (s 3049)) 3052 ((mi_and (c 34 ((s 3049)).toNat) 255))) 3049 ((s 3049) + 1)), p, c) _
              have b82 : -128 ≤ (c 34 (((s 3049) + 1)).toNat) ∧ (c 34 (((s 3049) + 1)).toNat) ≤ 127 := hC 34 _
              refine tt_k 3 (S' := (135, [some (.inr (.inl 30)), some (.inl 1)], [.inl 127, .inl ((mi_and (c 34 (((s 3049) + 1)).toNat) 255))], n, D, (us (us (us s 3053 (s 3049)) 3052 ((mi_and (c 34 ((s 3049)).toNat) 255))) 3049 ((s 3049) + 1)), p, c)) rfl ?_
              have e83 := mi_and255 ((c 34 (((s 3049) + 1)).toNat))
              refine tb_le (x := (mi_and (c 34 (((s 3049) + 1)).toNat) 255)) (y := 127) rfl rfl (by omega) (fun h84 => ?_) (fun h84 => ?_)
              · show tt Zi d 165 (148, [some (.inr (.inl 30)), some (.inl 1)], [], n, D, (us (us (us s 3053 (s 3049)) 3052 ((mi_and (c 34 ((s 3049)).toNat) 255))) 3049 ((s 3049) + 1)), p, c) _
                refine tt_k 2 (S' := (150, [some (.inr (.inl 30)), some (.inl 1)], [.inl 1, .inr (.inl 30)], n, D, (us (us (us s 3053 (s 3049)) 3052 ((mi_and (c 34 ((s 3049)).toNat) 255))) 3049 ((s 3049) + 1)), p, c)) rfl ?_
                refine tz_eq (x := 1) rfl rfl (by omega) (fun h85 => ?_) (fun h85 => ?_)
                · exfalso; omega
                · show tt Zi d 165 (153, [some (.inr (.inl 30)), some (.inl 1)], [.inr (.inl 30)], n, D, (us (us (us s 3053 (s 3049)) 3052 ((mi_and (c 34 ((s 3049)).toNat) 255))) 3049 ((s 3049) + 1)), p, c) _
                  refine tt_k 3 (S' := (163, [some (.inr (.inl 30)), some (.inl 1)], [], n, D, (us (us (us (us s 3053 (s 3049)) 3052 ((mi_and (c 34 ((s 3049)).toNat) 255))) 3049 ((s 3049) + 1)) 3054 7), p, c)) rfl ?_
                  exact tt_rtv rfl rfl ⟨(us (us (us (us s 3053 (s 3049)) 3052 ((mi_and (c 34 ((s 3049)).toNat) 255))) 3049 ((s 3049) + 1)) 3054 7), rfl, rfl, (bS_us (bS_us (bS_us (bS_us hS (show 0 ≤ (s 3049) ∧ (s 3049) ≤ 32768 by omega)) (show 0 ≤ (mi_and (c 34 ((s 3049)).toNat) 255) ∧ (mi_and (c 34 ((s 3049)).toNat) 255) ≤ 255 by omega)) (show 0 ≤ ((s 3049) + 1) ∧ ((s 3049) + 1) ≤ 32769 by omega)) (show 0 ≤ 7 ∧ 7 ≤ 8 by omega)), (fr_us (by decide) (fr_us (by decide) (fr_us (by decide) (fr_us (by decide) fr_rf)))), by show (s 3050) = 0 → rdRdy A (s 3049, s 3052, s 3054) = some (((s 3049) + 1), ((mi_and (c 34 ((s 3049)).toNat) 255)), 7); intro hf; unfold rdRdy rdOpen; show (if s 3054 = 0 then (if s 3049 < A.2 then (if A.1 (s 3049).toNat = 255 then (if s 3049 + 1 < A.2 then (if A.1 (s 3049 + 1).toNat < 128 then some (s 3049 + 1, A.1 (s 3049).toNat, (if s 3052 = 255 then (7 : Int) else 8)) else none) else none) else some (s 3049 + 1, A.1 (s 3049).toNat, (if s 3052 = 255 then (7 : Int) else 8))) else none) else some (s 3049, s 3052, s 3054)) = _; (repeat' split) <;> first | (exfalso; omega) | exact so3 (by omega) (by omega) (by omega), by show (s 3050) ≠ 0 → rdRdy A (s 3049, s 3052, s 3054) = none; intro hf; unfold rdRdy rdOpen; show (if s 3054 = 0 then (if s 3049 < A.2 then (if A.1 (s 3049).toNat = 255 then (if s 3049 + 1 < A.2 then (if A.1 (s 3049 + 1).toNat < 128 then some (s 3049 + 1, A.1 (s 3049).toNat, (if s 3052 = 255 then (7 : Int) else 8)) else none) else none) else some (s 3049 + 1, A.1 (s 3049).toNat, (if s 3052 = 255 then (7 : Int) else 8))) else none) else some (s 3049, s 3052, s 3054)) = _; (repeat' split) <;> first | rfl | (exfalso; omega), by show (s 3050) = 0 → (1 ≤ 7 ∧ 7 ≤ 8) ∧ (0 ≤ ((mi_and (c 34 ((s 3049)).toNat) 255)) ∧ ((mi_and (c 34 ((s 3049)).toNat) 255)) ≤ 255); omega, by show ((s 3049) + 1) ≤ s 3014; omega⟩
              · show tt Zi d 165 (138, [some (.inr (.inl 30)), some (.inl 1)], [], n, D, (us (us (us s 3053 (s 3049)) 3052 ((mi_and (c 34 ((s 3049)).toNat) 255))) 3049 ((s 3049) + 1)), p, c) _
                refine tt_k 4 (S' := (145, [some (.inr (.inl 30)), some (.inl 1)], [.inl (s 3049), .inl 7, .inr (.inl 30)], n, D, (us (us (us s 3053 (s 3049)) 3052 ((mi_and (c 34 ((s 3049)).toNat) 255))) 3049 ((s 3049) + 1)), p, c)) rfl ?_
                refine tt_cl (by omega) rfl (k_fail (Zi := Zi) (D := D) (s := (us (us (us s 3053 (s 3049)) 3052 ((mi_and (c 34 ((s 3049)).toNat) 255))) 3049 ((s 3049) + 1))) (p := p) (c := c) (by omega) (bS_us (bS_us (bS_us hS (show 0 ≤ (s 3049) ∧ (s 3049) ≤ 32768 by omega)) (show 0 ≤ (mi_and (c 34 ((s 3049)).toNat) 255) ∧ (mi_and (c 34 ((s 3049)).toNat) 255) ≤ 255 by omega)) (show 0 ≤ ((s 3049) + 1) ∧ ((s 3049) + 1) ≤ 32769 by omega)) hC 7 (s 3049) (by omega) (by omega)) ?_
                rintro _ _ ⟨s86, rfl, rfl, hS86, f87, k88, k89⟩
                show tt Zi d 165 (148, [some (.inr (.inl 30)), some (.inl 1)], [], n, D, s86, p, c) _
                replace k88 : ((s 3050) = 0 → (s86 3050) = 7 ∧ (s86 3051) = (s 3049)) := k88
                replace k89 : ((s 3050) ≠ 0 → (s86 3050) = (s 3050) ∧ (s86 3051) = (s 3051)) := k89
                have b90 : 0 ≤ (s86 3050) ∧ (s86 3050) ≤ 8 := hS86 3050
                have b91 : -1 ≤ (s86 3051) ∧ (s86 3051) ≤ 32769 := hS86 3051
                have b92 : -1 ≤ (s 3051) ∧ (s 3051) ≤ 32769 := hS 3051
                have e93 : s86 3049 = ((s 3049) + 1) := (f87 3049 (by decide))
                have b94 : 0 ≤ (s86 3049) ∧ (s86 3049) ≤ 32769 := hS86 3049
                have e95 : s86 3014 = (s 3014) := (f87 3014 (by decide))
                have b96 : 0 ≤ (s86 3014) ∧ (s86 3014) ≤ 32768 := hS86 3014
                have e97 : s86 3053 = (s 3049) := (f87 3053 (by decide))
                have b98 : 0 ≤ (s86 3053) ∧ (s86 3053) ≤ 32768 := hS86 3053
                have e99 : s86 3052 = (mi_and (c 34 ((s 3049)).toNat) 255) := (f87 3052 (by decide))
                have b100 : 0 ≤ (s86 3052) ∧ (s86 3052) ≤ 255 := hS86 3052
                have e101 : s86 3054 = (s 3054) := (f87 3054 (by decide))
                have b102 : 0 ≤ (s86 3054) ∧ (s86 3054) ≤ 8 := hS86 3054
                have hx103 : tpl A (s86 3014) (c 34) := by rw [f87 3014 (by decide)]; exact hp0
                refine tt_k 2 (S' := (150, [some (.inr (.inl 30)), some (.inl 1)], [.inl 1, .inr (.inl 30)], n, D, s86, p, c)) rfl ?_
                refine tz_eq (x := 1) rfl rfl (by omega) (fun h104 => ?_) (fun h104 => ?_)
                · exfalso; omega
                · show tt Zi d 165 (153, [some (.inr (.inl 30)), some (.inl 1)], [.inr (.inl 30)], n, D, s86, p, c) _
                  refine tt_k 3 (S' := (163, [some (.inr (.inl 30)), some (.inl 1)], [], n, D, (us s86 3054 7), p, c)) rfl ?_
                  exact tt_rtv rfl rfl ⟨(us s86 3054 7), rfl, rfl, (bS_us hS86 (show 0 ≤ 7 ∧ 7 ≤ 8 by omega)), (fr_us (by decide) (fr_tr (fr_us (by decide) (fr_us (by decide) (fr_us (by decide) fr_rf))) f87 (by decide))), by show (s86 3050) = 0 → rdRdy A (s 3049, s 3052, s 3054) = some ((s86 3049), (s86 3052), 7); intro hf; unfold rdRdy rdOpen; show (if s 3054 = 0 then (if s 3049 < A.2 then (if A.1 (s 3049).toNat = 255 then (if s 3049 + 1 < A.2 then (if A.1 (s 3049 + 1).toNat < 128 then some (s 3049 + 1, A.1 (s 3049).toNat, (if s 3052 = 255 then (7 : Int) else 8)) else none) else none) else some (s 3049 + 1, A.1 (s 3049).toNat, (if s 3052 = 255 then (7 : Int) else 8))) else none) else some (s 3049, s 3052, s 3054)) = _; (repeat' split) <;> first | (exfalso; omega) | exact so3 (by omega) (by omega) (by omega), by show (s86 3050) ≠ 0 → rdRdy A (s 3049, s 3052, s 3054) = none; intro hf; unfold rdRdy rdOpen; show (if s 3054 = 0 then (if s 3049 < A.2 then (if A.1 (s 3049).toNat = 255 then (if s 3049 + 1 < A.2 then (if A.1 (s 3049 + 1).toNat < 128 then some (s 3049 + 1, A.1 (s 3049).toNat, (if s 3052 = 255 then (7 : Int) else 8)) else none) else none) else some (s 3049 + 1, A.1 (s 3049).toNat, (if s 3052 = 255 then (7 : Int) else 8))) else none) else some (s 3049, s 3052, s 3054)) = _; (repeat' split) <;> first | rfl | (exfalso; omega), by show (s86 3050) = 0 → (1 ≤ 7 ∧ 7 ≤ 8) ∧ (0 ≤ (s86 3052) ∧ (s86 3052) ≤ 255); omega, by show (s86 3049) ≤ s 3014; omega⟩
            · show tt Zi d 165 (108, [some (.inr (.inl 30)), some (.inl 1)], [], n, D, (us (us (us s 3053 (s 3049)) 3052 ((mi_and (c 34 ((s 3049)).toNat) 255))) 3049 ((s 3049) + 1)), p, c) _
              refine tt_k 4 (S' := (114, [some (.inr (.inl 30)), some (.inl 1)], [.inl (s 3014), .inl 1, .inr (.inl 30)], n, D, (us (us (us s 3053 (s 3049)) 3052 ((mi_and (c 34 ((s 3049)).toNat) 255))) 3049 ((s 3049) + 1)), p, c)) rfl ?_
              refine tt_cl (by omega) rfl (k_fail (Zi := Zi) (D := D) (s := (us (us (us s 3053 (s 3049)) 3052 ((mi_and (c 34 ((s 3049)).toNat) 255))) 3049 ((s 3049) + 1))) (p := p) (c := c) (by omega) (bS_us (bS_us (bS_us hS (show 0 ≤ (s 3049) ∧ (s 3049) ≤ 32768 by omega)) (show 0 ≤ (mi_and (c 34 ((s 3049)).toNat) 255) ∧ (mi_and (c 34 ((s 3049)).toNat) 255) ≤ 255 by omega)) (show 0 ≤ ((s 3049) + 1) ∧ ((s 3049) + 1) ≤ 32769 by omega)) hC 1 (s 3014) (by omega) (by omega)) ?_
              rintro _ _ ⟨s105, rfl, rfl, hS105, f106, k107, k108⟩
              show tt Zi d 165 (117, [some (.inr (.inl 30)), some (.inl 1)], [], n, D, s105, p, c) _
              replace k107 : ((s 3050) = 0 → (s105 3050) = 1 ∧ (s105 3051) = (s 3014)) := k107
              replace k108 : ((s 3050) ≠ 0 → (s105 3050) = (s 3050) ∧ (s105 3051) = (s 3051)) := k108
              have b109 : 0 ≤ (s105 3050) ∧ (s105 3050) ≤ 8 := hS105 3050
              have b110 : -1 ≤ (s105 3051) ∧ (s105 3051) ≤ 32769 := hS105 3051
              have b111 : -1 ≤ (s 3051) ∧ (s 3051) ≤ 32769 := hS 3051
              have e112 : s105 3049 = ((s 3049) + 1) := (f106 3049 (by decide))
              have b113 : 0 ≤ (s105 3049) ∧ (s105 3049) ≤ 32769 := hS105 3049
              have e114 : s105 3014 = (s 3014) := (f106 3014 (by decide))
              have b115 : 0 ≤ (s105 3014) ∧ (s105 3014) ≤ 32768 := hS105 3014
              have e116 : s105 3053 = (s 3049) := (f106 3053 (by decide))
              have b117 : 0 ≤ (s105 3053) ∧ (s105 3053) ≤ 32768 := hS105 3053
              have e118 : s105 3052 = (mi_and (c 34 ((s 3049)).toNat) 255) := (f106 3052 (by decide))
              have b119 : 0 ≤ (s105 3052) ∧ (s105 3052) ≤ 255 := hS105 3052
              have e120 : s105 3054 = (s 3054) := (f106 3054 (by decide))
              have b121 : 0 ≤ (s105 3054) ∧ (s105 3054) ≤ 8 := hS105 3054
              have hx122 : tpl A (s105 3014) (c 34) := by rw [f106 3014 (by decide)]; exact hp0
              refine tt_k 3 (S' := (150, [some (.inr (.inl 30)), some (.inl 1)], [.inl 1, .inr (.inl 30)], n, D, s105, p, c)) rfl ?_
              refine tz_eq (x := 1) rfl rfl (by omega) (fun h123 => ?_) (fun h123 => ?_)
              · exfalso; omega
              · show tt Zi d 165 (153, [some (.inr (.inl 30)), some (.inl 1)], [.inr (.inl 30)], n, D, s105, p, c) _
                refine tt_k 3 (S' := (163, [some (.inr (.inl 30)), some (.inl 1)], [], n, D, (us s105 3054 7), p, c)) rfl ?_
                exact tt_rtv rfl rfl ⟨(us s105 3054 7), rfl, rfl, (bS_us hS105 (show 0 ≤ 7 ∧ 7 ≤ 8 by omega)), (fr_us (by decide) (fr_tr (fr_us (by decide) (fr_us (by decide) (fr_us (by decide) fr_rf))) f106 (by decide))), by show (s105 3050) = 0 → rdRdy A (s 3049, s 3052, s 3054) = some ((s105 3049), (s105 3052), 7); intro hf; unfold rdRdy rdOpen; show (if s 3054 = 0 then (if s 3049 < A.2 then (if A.1 (s 3049).toNat = 255 then (if s 3049 + 1 < A.2 then (if A.1 (s 3049 + 1).toNat < 128 then some (s 3049 + 1, A.1 (s 3049).toNat, (if s 3052 = 255 then (7 : Int) else 8)) else none) else none) else some (s 3049 + 1, A.1 (s 3049).toNat, (if s 3052 = 255 then (7 : Int) else 8))) else none) else some (s 3049, s 3052, s 3054)) = _; (repeat' split) <;> first | (exfalso; omega) | exact so3 (by omega) (by omega) (by omega), by show (s105 3050) ≠ 0 → rdRdy A (s 3049, s 3052, s 3054) = none; intro hf; unfold rdRdy rdOpen; show (if s 3054 = 0 then (if s 3049 < A.2 then (if A.1 (s 3049).toNat = 255 then (if s 3049 + 1 < A.2 then (if A.1 (s 3049 + 1).toNat < 128 then some (s 3049 + 1, A.1 (s 3049).toNat, (if s 3052 = 255 then (7 : Int) else 8)) else none) else none) else some (s 3049 + 1, A.1 (s 3049).toNat, (if s 3052 = 255 then (7 : Int) else 8))) else none) else some (s 3049, s 3052, s 3054)) = _; (repeat' split) <;> first | rfl | (exfalso; omega), by show (s105 3050) = 0 → (1 ≤ 7 ∧ 7 ≤ 8) ∧ (0 ≤ (s105 3052) ∧ (s105 3052) ≤ 255); omega, by show (s105 3049) ≤ s 3014; omega⟩
        · show tt Zi d 165 (42, [some (.inr (.inl 30)), some (.inl 1)], [], n, D, s, p, c) _
          refine tt_k 4 (S' := (48, [some (.inr (.inl 30)), some (.inl 1)], [.inl (s 3014), .inl 1, .inr (.inl 30)], n, D, s, p, c)) rfl ?_
          refine tt_cl (by omega) rfl (k_fail (Zi := Zi) (D := D) (s := s) (p := p) (c := c) (by omega) hS hC 1 (s 3014) (by omega) (by omega)) ?_
          rintro _ _ ⟨s124, rfl, rfl, hS124, f125, k126, k127⟩
          show tt Zi d 165 (51, [some (.inr (.inl 30)), some (.inl 1)], [], n, D, s124, p, c) _
          replace k126 : ((s 3050) = 0 → (s124 3050) = 1 ∧ (s124 3051) = (s 3014)) := k126
          replace k127 : ((s 3050) ≠ 0 → (s124 3050) = (s 3050) ∧ (s124 3051) = (s 3051)) := k127
          have b128 : 0 ≤ (s124 3050) ∧ (s124 3050) ≤ 8 := hS124 3050
          have b129 : -1 ≤ (s124 3051) ∧ (s124 3051) ≤ 32769 := hS124 3051
          have b130 : -1 ≤ (s 3051) ∧ (s 3051) ≤ 32769 := hS 3051
          have e131 : s124 3049 = (s 3049) := (f125 3049 (by decide))
          have b132 : 0 ≤ (s124 3049) ∧ (s124 3049) ≤ 32769 := hS124 3049
          have e133 : s124 3014 = (s 3014) := (f125 3014 (by decide))
          have b134 : 0 ≤ (s124 3014) ∧ (s124 3014) ≤ 32768 := hS124 3014
          have e135 : s124 3053 = (s 3053) := (f125 3053 (by decide))
          have b136 : 0 ≤ (s124 3053) ∧ (s124 3053) ≤ 32768 := hS124 3053
          have b137 : 0 ≤ (s 3053) ∧ (s 3053) ≤ 32768 := hS 3053
          have e138 : s124 3052 = (s 3052) := (f125 3052 (by decide))
          have b139 : 0 ≤ (s124 3052) ∧ (s124 3052) ≤ 255 := hS124 3052
          have e140 : s124 3054 = (s 3054) := (f125 3054 (by decide))
          have b141 : 0 ≤ (s124 3054) ∧ (s124 3054) ≤ 8 := hS124 3054
          have hx142 : tpl A (s124 3014) (c 34) := by rw [f125 3014 (by decide)]; exact hp0
          exact tt_rtv rfl rfl ⟨s124, rfl, rfl, hS124, (fr_tr fr_rf f125 (by decide)), by show (s124 3050) = 0 → rdRdy A (s 3049, s 3052, s 3054) = some ((s124 3049), (s124 3052), (s124 3054)); intro hf; unfold rdRdy rdOpen; show (if s 3054 = 0 then (if s 3049 < A.2 then (if A.1 (s 3049).toNat = 255 then (if s 3049 + 1 < A.2 then (if A.1 (s 3049 + 1).toNat < 128 then some (s 3049 + 1, A.1 (s 3049).toNat, (if s 3052 = 255 then (7 : Int) else 8)) else none) else none) else some (s 3049 + 1, A.1 (s 3049).toNat, (if s 3052 = 255 then (7 : Int) else 8))) else none) else some (s 3049, s 3052, s 3054)) = _; (repeat' split) <;> first | (exfalso; omega) | exact so3 (by omega) (by omega) (by omega), by show (s124 3050) ≠ 0 → rdRdy A (s 3049, s 3052, s 3054) = none; intro hf; unfold rdRdy rdOpen; show (if s 3054 = 0 then (if s 3049 < A.2 then (if A.1 (s 3049).toNat = 255 then (if s 3049 + 1 < A.2 then (if A.1 (s 3049 + 1).toNat < 128 then some (s 3049 + 1, A.1 (s 3049).toNat, (if s 3052 = 255 then (7 : Int) else 8)) else none) else none) else some (s 3049 + 1, A.1 (s 3049).toNat, (if s 3052 = 255 then (7 : Int) else 8))) else none) else some (s 3049, s 3052, s 3054)) = _; (repeat' split) <;> first | rfl | (exfalso; omega), by show (s124 3050) = 0 → (1 ≤ (s124 3054) ∧ (s124 3054) ≤ 8) ∧ (0 ≤ (s124 3052) ∧ (s124 3052) ≤ 255); omega, by show (s124 3049) ≤ s 3014; omega⟩
    · show tt Zi d 165 (14, [some (.inr (.inl 30)), none], [], n, D, s, p, c) _
      exact tt_rtv rfl rfl ⟨s, rfl, rfl, hS, fr_rf, by show (s 3050) = 0 → rdRdy A (s 3049, s 3052, s 3054) = some ((s 3049), (s 3052), (s 3054)); intro hf; unfold rdRdy rdOpen; show (if s 3054 = 0 then (if s 3049 < A.2 then (if A.1 (s 3049).toNat = 255 then (if s 3049 + 1 < A.2 then (if A.1 (s 3049 + 1).toNat < 128 then some (s 3049 + 1, A.1 (s 3049).toNat, (if s 3052 = 255 then (7 : Int) else 8)) else none) else none) else some (s 3049 + 1, A.1 (s 3049).toNat, (if s 3052 = 255 then (7 : Int) else 8))) else none) else some (s 3049, s 3052, s 3054)) = _; (repeat' split) <;> first | (exfalso; omega) | exact so3 (by omega) (by omega) (by omega), by show (s 3050) ≠ 0 → rdRdy A (s 3049, s 3052, s 3054) = none; intro hf; unfold rdRdy rdOpen; show (if s 3054 = 0 then (if s 3049 < A.2 then (if A.1 (s 3049).toNat = 255 then (if s 3049 + 1 < A.2 then (if A.1 (s 3049 + 1).toNat < 128 then some (s 3049 + 1, A.1 (s 3049).toNat, (if s 3052 = 255 then (7 : Int) else 8)) else none) else none) else some (s 3049 + 1, A.1 (s 3049).toNat, (if s 3052 = 255 then (7 : Int) else 8))) else none) else some (s 3049, s 3052, s 3054)) = _; (repeat' split) <;> first | rfl | (exfalso; omega), by show (s 3050) = 0 → (1 ≤ (s 3054) ∧ (s 3054) ≤ 8) ∧ (0 ≤ (s 3052) ∧ (s 3052) ≤ 255); omega, by show (s 3049) ≤ s 3014; omega⟩
set_option maxRecDepth 100000 in
set_option maxHeartbeats 4000000 in
theorem y_bit {Zi : Nat → Option (Nat × (Nat → Int))} {d n : Nat} {D : Nat → Nat × Nat} {s : Nat → Int} {p : Nat → Nat} {c : Nat → Nat → Int} (hd : 2 ≤ d) (hS : bS s) (hC : bC D c) (A : TN) (hp0 : tpl A (s 3014) (c 34)) (hp1 : s 3050 = 0) (hp2 : (0 ≤ s 3054 ∧ s 3054 ≤ 8) ∧ (0 ≤ s 3052 ∧ s 3052 ≤ 255)) (hp3 : s 3049 ≤ s 3014) : tt Zi d 168 (0, [some (.inr (.inl 30))], [], n, D, s, p, c) (fun R H => ∃ (s' : Nat → Int) (r : Int), R = .inl (some (.inl r)) ∧ H = (n, D, s', p, c) ∧ bS s' ∧ fr s s' [3049, 3050, 3051, 3052, 3053, 3054] ∧ (0 ≤ r ∧ r ≤ 1) ∧ (s' 3050 = 0 → rdBit A (s 3049, s 3052, s 3054) = some (r, s' 3049, s' 3052, s' 3054)) ∧ (s' 3050 ≠ 0 → rdBit A (s 3049, s 3052, s 3054) = none) ∧ (s' 3050 ≠ 0 → r = 0) ∧ (s' 3050 = 0 → (0 ≤ s' 3054 ∧ s' 3054 ≤ 8) ∧ (0 ≤ s' 3052 ∧ s' 3052 ≤ 255)) ∧ (s' 3049 ≤ s 3014)) := by
  refine tt_k 1 (S' := (1, [some (.inr (.inl 30))], [.inr (.inl 30)], n, D, s, p, c)) rfl ?_
  have b1 : 0 ≤ (s 3014) ∧ (s 3014) ≤ 32768 := hS 3014
  have b2 : 0 ≤ (s 3050) ∧ (s 3050) ≤ 8 := hS 3050
  have b3 : 0 ≤ (s 3054) ∧ (s 3054) ≤ 8 := hS 3054
  have b4 : 0 ≤ (s 3052) ∧ (s 3052) ≤ 255 := hS 3052
  have b5 : 0 ≤ (s 3049) ∧ (s 3049) ≤ 32769 := hS 3049
  refine tt_cl (by omega) rfl (y_ready (Zi := Zi) (D := D) (s := s) (p := p) (c := c) (by omega) hS hC A hp0 (show (s 3050) = 0 by omega) (show (0 ≤ (s 3054) ∧ (s 3054) ≤ 8) ∧ (0 ≤ (s 3052) ∧ (s 3052) ≤ 255) by omega) (show (s 3049) ≤ (s 3014) by omega)) ?_
  rintro _ _ ⟨s6, rfl, rfl, hS6, f7, k8, k9, k10, k11⟩
  show tt Zi d 168 (4, [some (.inr (.inl 30))], [], n, D, s6, p, c) _
  replace k8 : (s6 3050) = 0 → rdRdy A ((s 3049), (s 3052), (s 3054)) = some ((s6 3049), (s6 3052), (s6 3054)) := k8
  replace k9 : (s6 3050) ≠ 0 → rdRdy A ((s 3049), (s 3052), (s 3054)) = none := k9
  replace k10 : (s6 3050) = 0 → (1 ≤ (s6 3054) ∧ (s6 3054) ≤ 8) ∧ (0 ≤ (s6 3052) ∧ (s6 3052) ≤ 255) := k10
  replace k11 : (s6 3049) ≤ (s 3014) := k11
  have b12 : 0 ≤ (s6 3050) ∧ (s6 3050) ≤ 8 := hS6 3050
  have b13 : 0 ≤ (s6 3049) ∧ (s6 3049) ≤ 32769 := hS6 3049
  have b14 : 0 ≤ (s6 3052) ∧ (s6 3052) ≤ 255 := hS6 3052
  have b15 : 0 ≤ (s6 3054) ∧ (s6 3054) ≤ 8 := hS6 3054
  have hx16 : tpl A (s6 3014) (c 34) := by rw [f7 3014 (by decide)]; exact hp0
  refine tt_k 2 (S' := (8, [some (.inr (.inl 30))], [.inl (s6 3050)], n, D, s6, p, c)) rfl ?_
  refine tz_le (x := (s6 3050)) rfl rfl (by omega) (fun h17 => ?_) (fun h17 => ?_)
  · show tt Zi d 168 (13, [some (.inr (.inl 30))], [], n, D, s6, p, c) _
    refine tt_k 13 (S' := (34, [some (.inr (.inl 30))], [.inl ((mi_and (mi_shr (s6 3052) ((s6 3054) - 1)) 1))], n, D, (us s6 3054 ((s6 3054) - 1)), p, c)) rfl ?_
    have e18 := mi_shr_bd (s6 3052) ((s6 3054) - 1)
    have e19 := mi_and1 ((mi_shr (s6 3052) ((s6 3054) - 1)))
    exact tt_rti rfl rfl ⟨(us s6 3054 ((s6 3054) - 1)), (mi_and (mi_shr (s6 3052) ((s6 3054) - 1)) 1), rfl, rfl, (bS_us hS6 (show 0 ≤ ((s6 3054) - 1) ∧ ((s6 3054) - 1) ≤ 8 by omega)), (fr_us (by decide) (fr_tr fr_rf f7 (by decide))), by omega, by show (s6 3050) = 0 → rdBit A (s 3049, s 3052, s 3054) = some (((mi_and (mi_shr (s6 3052) ((s6 3054) - 1)) 1)), (s6 3049), (s6 3052), ((s6 3054) - 1)); intro hf; have h := rdBit_r (k8 (by omega)); rw [← bt_sh (v := s6 3052) (k := s6 3054 - 1) (by omega) (by omega) (Or.inl (by omega))] at h; exact h, by show (s6 3050) ≠ 0 → rdBit A (s 3049, s 3052, s 3054) = none; intro hf; exact absurd hf (by omega), by show (s6 3050) ≠ 0 → ((mi_and (mi_shr (s6 3052) ((s6 3054) - 1)) 1)) = 0; intro hf; omega, by show (s6 3050) = 0 → (0 ≤ ((s6 3054) - 1) ∧ ((s6 3054) - 1) ≤ 8) ∧ (0 ≤ (s6 3052) ∧ (s6 3052) ≤ 255); omega, by show (s6 3049) ≤ s 3014; omega⟩
  · show tt Zi d 168 (11, [some (.inr (.inl 30))], [], n, D, s6, p, c) _
    refine tt_k 1 (S' := (12, [some (.inr (.inl 30))], [.inl 0], n, D, s6, p, c)) rfl ?_
    exact tt_rti rfl rfl ⟨s6, 0, rfl, rfl, hS6, (fr_tr fr_rf f7 (by decide)), by omega, by show (s6 3050) = 0 → rdBit A (s 3049, s 3052, s 3054) = some (0, (s6 3049), (s6 3052), (s6 3054)); intro hf; exact absurd hf (by omega), by show (s6 3050) ≠ 0 → rdBit A (s 3049, s 3052, s 3054) = none; intro hf; exact rdBit_rn (k9 hf), by show (s6 3050) ≠ 0 → 0 = 0; intro hf; omega, by show (s6 3050) = 0 → (0 ≤ (s6 3054) ∧ (s6 3054) ≤ 8) ∧ (0 ≤ (s6 3052) ∧ (s6 3052) ≤ 255); omega, by show (s6 3049) ≤ s 3014; omega⟩
set_option maxRecDepth 100000 in
set_option maxHeartbeats 4000000 in
theorem y_bits_L4 {Zi : Nat → Option (Nat × (Nat → Int))} {d n : Nat} {D : Nat → Nat × Nat} {s : Nat → Int} {p : Nat → Nat} {c : Nat → Nat → Int}  {Q : mi_Rs → mi_H → Prop} (hd : 3 ≤ d) (hS : bS s) (hC : bC D c) (A : TN) (R : Option (Int × RDT)) (n_ : Int) (b_n_ : 0 ≤ n_ ∧ n_ ≤ 30) (hq0 : tpl A (s 3014) (c 34))
  (hK : ∀ (v : Int) (k : Int) (s0 : Nat → Int) (b_v : 0 ≤ v ∧ v ≤ 1073741823) (b_k : 0 ≤ k ∧ k ≤ 30) (hS0 : bS s0) (hF0 : fr s s0 [3049, 3050, 3051, 3052, 3053, 3054]) (i0 : k ≤ n_) (i1 : v < 2 ^ k.toNat) (i2 : s0 3050 = 0 → rdBs A (n_ - k).toNat v (s0 3049, s0 3052, s0 3054) = R) (i3 : s0 3050 ≠ 0 → R = none) (i4 : s0 3050 = 0 → (0 ≤ s0 3054 ∧ s0 3054 ≤ 8) ∧ (0 ≤ s0 3052 ∧ s0 3052 ≤ 255)) (i5 : s0 3049 ≤ s 3014), (s0 3050 ≠ 0 ∨ n_ ≤ k) → tt Zi d 169 (31, [some (.inr (.inl 30)), some (.inl n_), some (.inl v), some (.inl k)], [], n, D, s0, p, c) Q) :
  ∀ (m : Nat) (v : Int) (k : Int) (s0 : Nat → Int) (b_v : 0 ≤ v ∧ v ≤ 1073741823) (b_k : 0 ≤ k ∧ k ≤ 30) (hS0 : bS s0) (hF0 : fr s s0 [3049, 3050, 3051, 3052, 3053, 3054]) (i0 : k ≤ n_) (i1 : v < 2 ^ k.toNat) (i2 : s0 3050 = 0 → rdBs A (n_ - k).toNat v (s0 3049, s0 3052, s0 3054) = R) (i3 : s0 3050 ≠ 0 → R = none) (i4 : s0 3050 = 0 → (0 ≤ s0 3054 ∧ s0 3054 ≤ 8) ∧ (0 ≤ s0 3052 ∧ s0 3052 ≤ 255)) (i5 : s0 3049 ≤ s 3014), (n_ - k).toNat < m → tt Zi d 169 (4, [some (.inr (.inl 30)), some (.inl n_), some (.inl v), some (.inl k)], [], n, D, s0, p, c) Q := by
  intro m
  induction m with
  | zero => intro v k s0 b_v b_k hS0 hF0 i0 i1 i2 i3 i4 i5 hm; exact absurd hm (by omega)
  | succ m ih =>
    intro v k s0 b_v b_k hS0 hF0 i0 i1 i2 i3 i4 i5 hm
    have e1 : s0 3014 = s 3014 := hF0 3014 (by decide)
    have b2 : 0 ≤ (s0 3014) ∧ (s0 3014) ≤ 32768 := hS0 3014
    have b3 : 0 ≤ (s 3014) ∧ (s 3014) ≤ 32768 := hS 3014
    have htp : tpl A (s0 3014) (c 34) := by rw [hF0 3014 (by decide)]; exact hq0
    have b4 : 0 ≤ (s0 3050) ∧ (s0 3050) ≤ 8 := hS0 3050
    refine tt_k 2 (S' := (6, [some (.inr (.inl 30)), some (.inl n_), some (.inl v), some (.inl k)], [.inl n_, .inl k], n, D, s0, p, c)) rfl ?_
    refine tb_ge (x := k) (y := n_) rfl rfl (by omega) (fun h5 => ?_) (fun h5 => ?_)
    · show tt Zi d 169 (31, [some (.inr (.inl 30)), some (.inl n_), some (.inl v), some (.inl k)], [], n, D, s0, p, c) _
      exact hK v k s0 (by omega) (by omega) hS0 hF0 i0 i1 i2 i3 i4 i5 (by omega)
    · show tt Zi d 169 (9, [some (.inr (.inl 30)), some (.inl n_), some (.inl v), some (.inl k)], [], n, D, s0, p, c) _
      refine tt_k 2 (S' := (13, [some (.inr (.inl 30)), some (.inl n_), some (.inl v), some (.inl k)], [.inl (s0 3050)], n, D, s0, p, c)) rfl ?_
      refine tz_ne (x := (s0 3050)) rfl rfl (by omega) (fun h6 => ?_) (fun h6 => ?_)
      · show tt Zi d 169 (31, [some (.inr (.inl 30)), some (.inl n_), some (.inl v), some (.inl k)], [], n, D, s0, p, c) _
        exact hK v k s0 (by omega) (by omega) hS0 hF0 i0 i1 i2 i3 i4 i5 (by omega)
      · show tt Zi d 169 (16, [some (.inr (.inl 30)), some (.inl n_), some (.inl v), some (.inl k)], [], n, D, s0, p, c) _
        refine tt_k 4 (S' := (20, [some (.inr (.inl 30)), some (.inl n_), some (.inl v), some (.inl k)], [.inr (.inl 30), .inl (2 * v)], n, D, s0, p, c)) rfl ?_
        have b7 : 0 ≤ (s0 3054) ∧ (s0 3054) ≤ 8 := hS0 3054
        have b8 : 0 ≤ (s0 3052) ∧ (s0 3052) ≤ 255 := hS0 3052
        have b9 : 0 ≤ (s0 3049) ∧ (s0 3049) ≤ 32769 := hS0 3049
        refine tt_cl (by omega) rfl (y_bit (Zi := Zi) (D := D) (s := s0) (p := p) (c := c) (by omega) hS0 hC A htp (show (s0 3050) = 0 by omega) (show (0 ≤ (s0 3054) ∧ (s0 3054) ≤ 8) ∧ (0 ≤ (s0 3052) ∧ (s0 3052) ≤ 255) by omega) (show (s0 3049) ≤ (s0 3014) by omega)) ?_
        rintro _ _ ⟨s10, r11, rfl, rfl, hS10, f12, b13, k14, k15, k16, k17, k18⟩
        show tt Zi d 169 (23, [some (.inr (.inl 30)), some (.inl n_), some (.inl v), some (.inl k)], [.inl r11, .inl (2 * v)], n, D, s10, p, c) _
        replace k14 : (s10 3050) = 0 → rdBit A ((s0 3049), (s0 3052), (s0 3054)) = some (r11, (s10 3049), (s10 3052), (s10 3054)) := k14
        replace k15 : (s10 3050) ≠ 0 → rdBit A ((s0 3049), (s0 3052), (s0 3054)) = none := k15
        replace k16 : (s10 3050) ≠ 0 → r11 = 0 := k16
        replace k17 : (s10 3050) = 0 → (0 ≤ (s10 3054) ∧ (s10 3054) ≤ 8) ∧ (0 ≤ (s10 3052) ∧ (s10 3052) ≤ 255) := k17
        replace k18 : (s10 3049) ≤ (s0 3014) := k18
        have b19 : 0 ≤ (s10 3050) ∧ (s10 3050) ≤ 8 := hS10 3050
        have b20 : 0 ≤ (s10 3049) ∧ (s10 3049) ≤ 32769 := hS10 3049
        have b21 : 0 ≤ (s10 3052) ∧ (s10 3052) ≤ 255 := hS10 3052
        have b22 : 0 ≤ (s10 3054) ∧ (s10 3054) ≤ 8 := hS10 3054
        have e23 : s10 3014 = (s0 3014) := (f12 3014 (by decide))
        have b24 : 0 ≤ (s10 3014) ∧ (s10 3014) ≤ 32768 := hS10 3014
        have hx25 : tpl A (s10 3014) (c 34) := by rw [f12 3014 (by decide)]; exact htp
        refine tt_k 4 (S' := (4, [some (.inr (.inl 30)), some (.inl n_), some (.inl ((2 * v) + r11)), some (.inl (k + 1))], [], n, D, s10, p, c)) rfl ?_
        have hn1 : (n_ - k).toNat = (n_ - (k + 1)).toNat + 1 := by omega
        have h2 := i2 (by omega)
        rw [hn1] at h2
        have hp1 := pw_s (k := k) (by omega)
        have hp2 := mi_pw (a := (k + 1).toNat) (b := 30) (by omega)
        have hp3 : (2 : Int) ^ 30 = 1073741824 := by decide
        exact ih ((2 * v) + r11) (k + 1) s10 (by omega) (by omega) hS10 (fr_tr hF0 f12 (by decide)) (show (k + 1) ≤ n_ by omega) (show ((2 * v) + r11) < 2 ^ (k + 1).toNat by omega) (fun hf => rdBs_s h2 (k14 hf)) (fun hf => rdBs_n h2 (k15 hf)) (show (s10 3050) = 0 → (0 ≤ (s10 3054) ∧ (s10 3054) ≤ 8) ∧ (0 ≤ (s10 3052) ∧ (s10 3052) ≤ 255) by omega) (show (s10 3049) ≤ s 3014 by omega) (show (n_ - (k + 1)).toNat < m by omega)
set_option maxRecDepth 100000 in
set_option maxHeartbeats 4000000 in
theorem y_bits {Zi : Nat → Option (Nat × (Nat → Int))} {d n : Nat} {D : Nat → Nat × Nat} {s : Nat → Int} {p : Nat → Nat} {c : Nat → Nat → Int} (hd : 3 ≤ d) (hS : bS s) (hC : bC D c) (A : TN) (n_ : Int) (b_n_ : 0 ≤ n_ ∧ n_ ≤ 30) (hp0 : tpl A (s 3014) (c 34)) (hp1 : s 3050 = 0) (hp2 : (0 ≤ s 3054 ∧ s 3054 ≤ 8) ∧ (0 ≤ s 3052 ∧ s 3052 ≤ 255)) (hp3 : s 3049 ≤ s 3014) : tt Zi d 169 (0, [some (.inr (.inl 30)), some (.inl n_), none, none], [], n, D, s, p, c) (fun R H => ∃ (s' : Nat → Int) (r : Int), R = .inl (some (.inl r)) ∧ H = (n, D, s', p, c) ∧ bS s' ∧ fr s s' [3049, 3050, 3051, 3052, 3053, 3054] ∧ (0 ≤ r ∧ r ≤ 1073741823) ∧ (s' 3050 = 0 → rdBs A (n_ : Int).toNat 0 (s 3049, s 3052, s 3054) = some (r, s' 3049, s' 3052, s' 3054)) ∧ (s' 3050 ≠ 0 → rdBs A (n_ : Int).toNat 0 (s 3049, s 3052, s 3054) = none) ∧ (r < 2 ^ (n_ : Int).toNat) ∧ (s' 3050 = 0 → (0 ≤ s' 3054 ∧ s' 3054 ≤ 8) ∧ (0 ≤ s' 3052 ∧ s' 3052 ≤ 255)) ∧ (s' 3049 ≤ s 3014)) := by
  refine tt_k 4 (S' := (4, [some (.inr (.inl 30)), some (.inl n_), some (.inl 0), some (.inl 0)], [], n, D, s, p, c)) rfl ?_
  have b1 : 0 ≤ (s 3014) ∧ (s 3014) ≤ 32768 := hS 3014
  refine y_bits_L4 (Zi := Zi) (D := D) (s := s) (p := p) (c := c) hd hS hC A (rdBs A (n_ : Int).toNat 0 (s 3049, s 3052, s 3054)) n_ (by omega) hp0 ?_ _ 0 0 s (by omega) (by omega) hS fr_rf (show 0 ≤ n_ by omega) (by decide) (fun _ => by rw [Int.sub_zero]) (fun h => absurd hp1 h) (show ((s 3050)) = 0 → (0 ≤ ((s 3054)) ∧ ((s 3054)) ≤ 8) ∧ (0 ≤ ((s 3052)) ∧ ((s 3052)) ≤ 255) by omega) (show ((s 3049)) ≤ (s 3014) by omega) (Nat.lt_succ_self _)
  intro x2 x3 s4 b5 b6 hS4 f7 i8 i9 i10 i11 i12 i13 hx14
  show tt Zi d 169 (31, [some (.inr (.inl 30)), some (.inl n_), some (.inl x2), some (.inl x3)], [], n, D, s4, p, c) _
  have e15 : s4 3014 = (s 3014) := (f7 3014 (by decide))
  have b16 : 0 ≤ (s4 3014) ∧ (s4 3014) ≤ 32768 := hS4 3014
  have hx17 : tpl A (s4 3014) (c 34) := by rw [f7 3014 (by decide)]; exact hp0
  have hp4 := mi_pw (a := (x3).toNat) (b := n_.toNat) (by omega)
  refine tt_k 1 (S' := (32, [some (.inr (.inl 30)), some (.inl n_), some (.inl x2), some (.inl x3)], [.inl x2], n, D, s4, p, c)) rfl ?_
  exact tt_rti rfl rfl ⟨s4, x2, rfl, rfl, hS4, (fr_tr fr_rf f7 (by decide)), by omega, by show (s4 3050) = 0 → rdBs A (n_ : Int).toNat 0 (s 3049, s 3052, s 3054) = some (x2, (s4 3049), (s4 3052), (s4 3054)); intro hf; have hz9 := i10 hf; rw [show (n_ - x3).toNat = 0 by omega, rdBs] at hz9; exact hz9.symm, i11, by show x2 < 2 ^ (n_ : Int).toNat; omega, by show (s4 3050) = 0 → (0 ≤ (s4 3054) ∧ (s4 3054) ≤ 8) ∧ (0 ≤ (s4 3052) ∧ (s4 3052) ≤ 255); omega, by show (s4 3049) ≤ s 3014; omega⟩
