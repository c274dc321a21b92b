def mm_dokr (M lo : Nat) : Bool := (List.range 64).all (fun j => match (mm_code M)[lo + j]? with
  | some (some q) => decide (decode (mm_bytes M) (lo + j) = .ok q) && (mm_sw q.1 || decide (q.2 = mm_len q.1))
  | _ => true)
theorem mm_dokr_use {M lo j : Nat} {q : Instr × Nat} (h : mm_dokr M lo = true) (hj : j < 64) (hq : (mm_code M)[lo + j]? = some (some q)) : decode (mm_bytes M) (lo + j) = .ok q ∧ mm_lenok q.1 q.2 := by
  have h1 := List.all_eq_true.mp h j (List.mem_range.mpr hj)
  simp only [hq, Bool.and_eq_true, Bool.or_eq_true, decide_eq_true_eq] at h1
  refine ⟨h1.1, fun hs => ?_⟩
  rcases h1.2 with h2 | h2
  · rw [h2] at hs; cases hs
  · exact h2
theorem mm_dokl_0 : mm_dokr 0 0 = true := by decide +kernel
theorem mm_dokl_1 : mm_dokr 0 64 = true := by decide +kernel
theorem mm_dokl_2 : mm_dokr 0 128 = true := by decide +kernel
theorem mm_dokl_3 : mm_dokr 0 192 = true := by decide +kernel
theorem mm_dokl_4 : mm_dokr 0 256 = true := by decide +kernel
theorem mm_dokl_5 : mm_dokr 0 320 = true := by decide +kernel
theorem mm_dokl_6 : mm_dokr 0 384 = true := by decide +kernel
theorem mm_dokl_7 : mm_dokr 0 448 = true := by decide +kernel
theorem mm_dokl_8 : mm_dokr 0 512 = true := by decide +kernel
