theorem mm_oddx (x : Int32) : (2 * x + 1 : Int32) ≠ 0 := by
  intro h
  have h2 := congrArg Int32.toInt h
  rw [Int32.toInt_add, Int32.toInt_mul] at h2
  have e1 : (1 : Int32).toInt = 1 := rfl
  have e2 : (2 : Int32).toInt = 2 := rfl
  have e0 : (0 : Int32).toInt = 0 := rfl
  rw [e1, e2, e0] at h2
  simp only [Int.bmod] at h2
  omega
theorem mm_tdv (A S : Int) (hS : S ≠ 0) (h : (1 ≤ S ∧ A ≤ 255 * S) ∨ (S ≤ -1 ∧ -A ≤ 255 * (-S))) : A.tdiv S ≤ 255 := by
  rcases h with ⟨h1, h2⟩ | ⟨h1, h2⟩
  · by_cases hA : 0 ≤ A
    · rw [Int.tdiv_eq_ediv_of_nonneg hA]
      exact Int.ediv_le_of_le_mul (by omega) h2
    · have : (-A).tdiv S = -(A.tdiv S) := Int.neg_tdiv _ _
      have h3 : 0 ≤ (-A).tdiv S := Int.tdiv_nonneg (by omega) (by omega)
      omega
  · have e : A.tdiv (-(-S)) = -(A.tdiv (-S)) := Int.tdiv_neg _ _
    rw [Int.neg_neg] at e
    rw [e]
    by_cases hA : 0 ≤ A
    · have h3 : 0 ≤ A.tdiv (-S) := Int.tdiv_nonneg hA (by omega)
      omega
    · have e2 : (-A).tdiv (-S) = -(A.tdiv (-S)) := Int.neg_tdiv _ _
      rw [← e2, Int.tdiv_eq_ediv_of_nonneg (by omega)]
      exact Int.ediv_le_of_le_mul (by omega) h2
theorem mm_rg (x : Int32) : ((255 + 2 * x) / (2 * x + 1) + 1 : Int32).toInt ≤ 256 := by
  have e1 : (1 : Int32).toInt = 1 := rfl
  have e2 : (2 : Int32).toInt = 2 := rfl
  have e3 : (255 : Int32).toInt = 255 := rfl
  have e0 : (0 : Int32).toInt = 0 := rfl
  have hs := mm_oddx x
  have hs2 : (2 * x + 1 : Int32).toInt ≠ 0 := fun h => hs (Int32.toInt_inj.mp (by rw [h, e0]))
  have hA1 := Int32.toInt_lt (255 + 2 * x)
  have hA2 := Int32.le_toInt (255 + 2 * x)
  have hS1 := Int32.toInt_lt (2 * x + 1)
  have hS2 := Int32.le_toInt (2 * x + 1)
  have hAS : (255 + 2 * x : Int32).toInt = ((2 * x + 1 : Int32).toInt + 254).bmod (2 ^ 32) := by
    rw [← Int32.toInt_inj.mpr (show (2 * x + 1 + 254 : Int32) = 255 + 2 * x by
      rw [Int32.add_assoc, Int32.add_comm]; rfl), Int32.toInt_add]
    rfl
  rw [Int32.toInt_add, Int32.toInt_div, e1]
  generalize (255 + 2 * x : Int32).toInt = A at *
  generalize (2 * x + 1 : Int32).toInt = S at *
  have hq : A.tdiv S ≤ 255 := by
    refine mm_tdv A S hs2 ?_
    simp only [Int.bmod] at hAS
    rcases Int.lt_or_gt_of_ne hs2 with h | h
    · refine Or.inr ⟨by omega, ?_⟩
      split at hAS <;> omega
    · refine Or.inl ⟨by omega, ?_⟩
      split at hAS <;> omega
  have hn : (A.tdiv S).natAbs ≤ A.natAbs := by
    rw [Int.natAbs_tdiv]
    exact Nat.div_le_self _ _
  have e5 : (A.tdiv S).bmod (2 ^ 32) = A.tdiv S := by
    generalize A.tdiv S = q at *
    simp only [Int.bmod]
    split <;> omega
  rw [e5]
  generalize A.tdiv S = q at *
  simp only [Int.bmod]
  split <;> omega
def mm_pl (v l : Int32) : Int32 := if v < l then l else if v ≤ 255 then v else l
theorem mm_plain {Z : Nat → Option (Nat × (Nat → Int32))} {d : Nat} {w : mm_W} {fs : List Value} {v l : Int32} (ho : mm_obj w 30 = some (10, fs)) (hf : fs[17]? = some (.int 255)) : mm_X Z d 145 (0, [some (.ref 30), some (.int v), some (.int l)], [], w) (.inl (some (.int (mm_pl v l))), w) := by
  unfold mm_pl
  refine mm_xk (S' := (2, [some (.ref 30), some (.int v), some (.int l)], [.int l, .int v], w)) 2 10 rfl ?_
  by_cases h : v < l
  · rw [if_pos h]
    refine mm_xif2 rfl true (decide_eq_true h) rfl ?_
    exact mm_xk (S' := (18, [some (.ref 30), some (.int v), some (.int l)], [.int l], w)) 2 10 rfl (mm_xfin rfl)
  · rw [if_neg h]
    refine mm_xif2 rfl false (decide_eq_false h) rfl ?_
    refine mm_xk (S' := (7, [some (.ref 30), some (.int v), some (.int l)], [.ref 30, .int v], w)) 2 10 rfl ?_
    refine mm_xget rfl ho rfl hf ?_
    by_cases h2 : v ≤ 255
    · rw [if_pos h2]
      refine mm_xif2 rfl true (decide_eq_true h2) rfl ?_
      exact mm_xk (S' := (18, [some (.ref 30), some (.int v), some (.int l)], [.int v], w)) 1 10 rfl (mm_xfin rfl)
    · rw [if_neg h2]
      refine mm_xif2 rfl false (decide_eq_false h2) rfl ?_
      exact mm_xk (S' := (18, [some (.ref 30), some (.int v), some (.int l)], [.int l], w)) 2 10 rfl (mm_xfin rfl)
theorem mm_plainE {Z : Nat → Option (Nat × (Nat → Int32))} {d : Nat} {w : mm_W} {fs : List Value} {v l t : Int32} (ho : mm_obj w 30 = some (10, fs)) (hf : fs[17]? = some (.int 255)) (ht : mm_pl v l = t) : mm_X Z d 145 (0, [some (.ref 30), some (.int v), some (.int l)], [], w) (.inl (some (.int t)), w) := ht ▸ mm_plain ho hf
