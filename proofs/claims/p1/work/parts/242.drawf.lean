theorem mm_toN {x : Int32} (h : 0 ≤ x.toInt) : x = Int32.ofNat x.toInt.toNat := by
  apply Int32.toInt_inj.mp
  have : x.toInt < 2147483648 := Int32.toInt_lt x
  rw [mm_nat (by omega)]
  omega
theorem mm_sub8 : ∀ X : Nat, X < 8 → ((8 : Int32) - Int32.ofNat X).toInt = 8 - X := by decide
theorem mm_dfit {x wide : Int32} (lx : 0 ≤ x.toInt) (ux : x.toInt ≤ 7) (lw : 1 ≤ wide.toInt) (h : mm_cmp .gt wide (8 - x) = false) : ∃ X W : Nat, x = Int32.ofNat X ∧ wide = Int32.ofNat W ∧ 1 ≤ W ∧ X + W ≤ 8 := by
  refine ⟨x.toInt.toNat, wide.toInt.toNat, mm_toN lx, mm_toN (by omega), by omega, ?_⟩
  have h1 : ¬ (8 - x < wide) := of_decide_eq_false h
  have h2 := Int32.not_lt.mp h1
  rw [Int32.le_iff_toInt_le] at h2
  have h3 := mm_sub8 x.toInt.toNat (by omega)
  rw [← mm_toN lx] at h3
  omega
theorem mm_drC {Z : Nat → Option (Nat × (Nat → Int32))} {d : Nat} {p x y wide high v u mk : Int32} {fs0 fs1 : List Value} {f : Nat → Int32} {w : mm_W} (lp : 0 ≤ p.toInt) (up : p.toInt ≤ 0) (lx : 0 ≤ x.toInt) (ux : x.toInt ≤ 7) (ly : 0 ≤ y.toInt) (uy : y.toInt ≤ 7) (lw : 1 ≤ wide.toInt) (lh : 1 ≤ high.toInt) (h1 : mm_cmp .gt wide (8 - x) = false) (h2 : mm_cmp .gt high (8 - y) = false)
    (hf0 : fs0[0]? = some (.ref 1)) (hf1 : fs1[0]? = some (.int 8)) (hf2 : fs1[4]? = some (.ref 29)) (ho0 : mm_obj w 0 = some (0, fs0)) (ho1 : mm_obj w 1 = some (2, fs1)) (ha : mm_ar w 29 = some (.int, 64, .inl f)) :
    ∃ f', mm_X Z (d + 1) 95 (105, [some (.ref 0), some (.int p), some (.int x), some (.int y), some (.int wide), some (.int high), some (.int v), some (.int u), some (.int mk), some (.int 255), some (.int (((p * 8 + y) * 8) + x)), some (.int 0), none, none, none], [], w) (.inl none, w.set 29 (.inl (.int, 64, .inl f'))) := by
  obtain rfl : p = 0 := Int32.toInt_inj.mp (by have : (0 : Int32).toInt = 0 := rfl; omega)
  obtain ⟨X, W, rfl, rfl, hW1, hXW⟩ := mm_dfit lx ux lw h1
  obtain ⟨Y, H, rfl, rfl, hH1, hYH⟩ := mm_dfit ly uy lh h2
  have e : (((0 : Int32) * 8 + Int32.ofNat Y) * 8) + Int32.ofNat X = Int32.ofNat (Y * 8 + X) := by
    rw [Int32.ofNat_add, Int32.ofNat_mul]
    show ((0 : Int32) + _) * 8 + _ = _
    rw [Int32.zero_add]
    rfl
  rw [e]
  exact mm_lpD (Z := Z) (d := d) (F := Y * 8 + X) hW1 (by omega) (by omega) (by omega) hf0 hf1 hf2 H 0 f w none none none (by omega) ho0 ho1 ha
theorem mm_drM {Z : Nat → Option (Nat × (Nat → Int32))} {d : Nat} {p x y wide high v u mk dep : Int32} {l9 : Option Value} {fs : List Value} {f : Nat → Int32} {w : mm_W} (lp : 0 ≤ p.toInt) (up : p.toInt ≤ 0) (lx : 0 ≤ x.toInt) (ux : x.toInt ≤ 7) (ly : 0 ≤ y.toInt) (uy : y.toInt ≤ 7) (lw : 1 ≤ wide.toInt) (lh : 1 ≤ high.toInt) (h1 : mm_cmp .gt wide (8 - x) = false) (h2 : mm_cmp .gt high (8 - y) = false)
    (hf5 : fs[5]? = some (.ref 31)) (hf4 : fs[4]? = some (.int dep)) (ho : mm_obj w 30 = some (10, fs)) (ha : mm_ar w 31 = some (.int, 12288, .inl f)) :
    ∃ f', mm_X Z (d + 1) 137 (141, [some (.ref 30), some (.int p), some (.int x), some (.int y), some (.int wide), some (.int high), some (.int v), some (.int u), some (.int mk), l9, some (.int 0), none, none, none], [], w) (.inl none, w.set 31 (.inl (.int, 12288, .inl f'))) := by
  obtain rfl : p = 0 := Int32.toInt_inj.mp (by have : (0 : Int32).toInt = 0 := rfl; omega)
  obtain ⟨X, W, rfl, rfl, hW1, hXW⟩ := mm_dfit lx ux lw h1
  obtain ⟨Y, H, rfl, rfl, hH1, hYH⟩ := mm_dfit ly uy lh h2
  exact mm_lpM (Z := Z) (d := d) hW1 (by omega) (by omega) (by omega) (by omega) hf5 hf4 H 0 f w none none none (by omega) ho ha
