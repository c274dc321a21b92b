theorem mm_dec {M pc : Nat} {q : Instr × Nat} (hM : M < 201) (hq : (mm_code M)[pc]? = some (some q)) : decode (mm_bytes M) pc = .ok q ∧ mm_lenok q.1 q.2 := sorry
