/-! each instruction of the tables is what the bytes say -/
def mm_dok (M : Nat) : Bool := (List.range (mm_code M).length).all (fun pc => match (mm_code M)[pc]? with
  | some (some q) => decide (decode (mm_bytes M) pc = .ok q) && (mm_sw q.1 || decide (q.2 = mm_len q.1))
  | _ => true)
theorem mm_dok_use {M pc : Nat} {q : Instr × Nat} (h : mm_dok M = true) (hq : (mm_code M)[pc]? = some (some q)) : decode (mm_bytes M) pc = .ok q ∧ mm_lenok q.1 q.2 := by
  have h1 := List.all_eq_true.mp h pc (List.mem_range.mpr (List.getElem?_eq_some_iff.mp hq).1)
  simp only [hq, Bool.and_eq_true, Bool.or_eq_true, decide_eq_true_eq] at h1
  refine ⟨h1.1, fun hs => ?_⟩
  rcases h1.2 with h2 | h2
  · rw [h2] at hs; cases hs
  · exact h2
