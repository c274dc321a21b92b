/-! what the tables say is so: decided by the kernel -/
theorem mm_in : ∀ c, c < 14 → ∀ w ∈ u_ws (mm_C c) (mm_T c) (mm_N c), w ∈ lw_tbl := by decide +kernel
theorem mm_tyok : ∀ c, c < 14 → ∀ k, k < mm_N c → parseFieldDescriptor (mm_T c k).2.2.1 = some (mm_ty0 c k) := by decide +kernel
theorem mm_nm : ∀ c, c < 14 → ∀ a, a < mm_N c → ∀ b, b < mm_N c → a ≠ b → (mm_T c a).2.1 ≠ (mm_T c b).2.1 := by decide +kernel
def mm_fok (cn : Nat) (e : Nat × Nat × String × List (Nat × Nat × Nat)) (a : Nat × Nat × Nat) : Prop :=
  a.1 < 11 ∧ a.2.1 < mm_N a.1 ∧ lw_tbl[e.2.1]? = some (.fieldLink (mm_own cn) e.1 e.2.2.1 (mm_T a.1 a.2.1).2.1 (mm_T a.1 a.2.1).2.2.1) ∧
    (e.2.2.1 = (mm_T a.1 a.2.1).1 ∨ lw_tbl[a.2.2]? = some (.sameField e.2.2.1 (mm_T a.1 a.2.1).1 (mm_T a.1 a.2.1).2.1 (mm_T a.1 a.2.1).2.2.1))
theorem mm_fp_ok : ∀ cn, cn < 14 → ∀ e ∈ mm_fp cn, ∀ a ∈ e.2.2.2, mm_fok cn e a := by
  unfold mm_fok
  decide +kernel
theorem mm_np_ok : ∀ cn, cn < 14 → ∀ e ∈ mm_np cn, e.2.1 < 14 ∧ lw_tbl[e.2.2]? = some (.classLink (mm_own cn) e.1 (mm_C e.2.1)) := by decide +kernel
theorem mm_kp_ok : ∀ cn, cn < 14 → ∀ e ∈ mm_kp cn, lw_tbl[e.2.2]? = some (.constant (mm_own cn) e.1 e.2.1) := by decide +kernel
theorem mm_made_ok : ∀ c, c < 11 → Cond.instantiable (mm_C c) (mm_N c) ∈ lw_tbl ∧ Cond.initialized (mm_C c) ∈ lw_tbl := by decide +kernel
def mm_sn (j : Nat) : String × String := match j with
  | 0 => ("NearPicture$Measures", "PLAIN_OF_BYTES")
  | 1 => ("NearPicture$Measures", "PLAIN_LEAST")
  | 2 => ("NearPicture$Measures", "PLAIN_BY_NEAR")
  | _ => ("NearPicture$Memory", "RUN_BITS")
theorem mm_sp_ok : ∀ cn, cn < 14 → ∀ e ∈ mm_sp cn, e.2.1 < 4 ∧ lw_tbl[e.2.2]? = some (.fieldLink (mm_own cn) e.1 (mm_sn e.2.1).1 (mm_sn e.2.1).2 "[I") := by decide +kernel
theorem mm_arr_ok : Cond.arrayClass .int ∈ lw_tbl ∧ Cond.arrayClass .byte ∈ lw_tbl ∧ Cond.arrayClass .long ∈ lw_tbl := by decide +kernel
/-! the words of a call, by its kind -/
theorem mm_ip0 : ∀ cn, cn < 14 → ∀ e ∈ mm_ip cn, e.2.1 = 0 → ∀ t ∈ e.2.2.2.2, t.2.1 < 201 ∧ lw_tbl[t.2.2.getD 0 0]? = some (.methodLink (mm_own cn) e.1 (mm_y t.2.1)) ∧ lw_tbl[t.2.2.getD 1 0]? = some (.static (mm_y t.2.1)) ∧ lw_tbl[t.2.2.getD 2 0]? = some (.initialized (mm_y t.2.1).cls) := by decide +kernel
theorem mm_ip1 : ∀ cn, cn < 14 → ∀ e ∈ mm_ip cn, e.2.1 = 1 → ∀ t ∈ e.2.2.2.2, t.2.1 < 201 ∧ lw_tbl[t.2.2.getD 0 0]? = some (.methodLinkNest (mm_own cn) e.1 (mm_y t.2.1) "NearPicture") ∧ lw_tbl[t.2.2.getD 1 0]? = some (.static (mm_y t.2.1)) ∧ lw_tbl[t.2.2.getD 2 0]? = some (.initialized (mm_y t.2.1).cls) := by decide +kernel
theorem mm_ip4 : ∀ cn, cn < 14 → ∀ e ∈ mm_ip cn, e.2.1 = 4 → ∀ t ∈ e.2.2.2.2, t.1 < 11 ∧ t.2.1 < 201 ∧ lw_tbl[t.2.2.getD 0 0]? = some (.methodLink (mm_own cn) e.1 (mm_y t.2.1)) ∧ lw_tbl[t.2.2.getD 1 0]? = some (.instanceMethod (mm_y t.2.1)) ∧ lw_tbl[t.2.2.getD 2 0]? = some (.initialized (mm_y t.2.1).cls) ∧ lw_tbl[t.2.2.getD 3 0]? = some (.selects (mm_C t.1) (mm_y t.2.1) (mm_y t.2.1)) := by decide +kernel
theorem mm_ip10 : ∀ cn, cn < 14 → ∀ e ∈ mm_ip cn, e.2.1 = 10 → ∀ t ∈ e.2.2.2.2, lw_tbl[t.2.2.getD 0 0]? = some (.methodLink (mm_own cn) e.1 Lib.Math.max.name) := by decide +kernel
theorem mm_ip11 : ∀ cn, cn < 14 → ∀ e ∈ mm_ip cn, e.2.1 = 11 → ∀ t ∈ e.2.2.2.2, lw_tbl[t.2.2.getD 0 0]? = some (.methodLink (mm_own cn) e.1 Lib.Math.min.name) := by decide +kernel
theorem mm_ip12 : ∀ cn, cn < 14 → ∀ e ∈ mm_ip cn, e.2.1 = 12 → ∀ t ∈ e.2.2.2.2, lw_tbl[t.2.2.getD 0 0]? = some (.methodLink (mm_own cn) e.1 Lib.Math.abs.name) := by decide +kernel
theorem mm_ip13 : ∀ cn, cn < 14 → ∀ e ∈ mm_ip cn, e.2.1 = 13 → ∀ t ∈ e.2.2.2.2, lw_tbl[t.2.2.getD 0 0]? = some (.methodLink (mm_own cn) e.1 arraycopyName) := by decide +kernel
theorem mm_ip14 : ∀ cn, cn < 14 → ∀ e ∈ mm_ip cn, e.2.1 = 14 → ∀ t ∈ e.2.2.2.2, lw_tbl[t.2.2.getD 0 0]? = some (.methodLink (mm_own cn) e.1 Lib.objectInit) := by decide +kernel
theorem mm_ipn : ∀ cn, cn < 14 → ∀ e ∈ mm_ip cn, e.2.1 < 10 → e.2.1 ≠ 5 → ∀ t ∈ e.2.2.2.2, (parseMethodDescriptor (mm_y t.2.1).desc).map (fun d => d.parameters.length) = some e.2.2.1 := by decide +kernel
theorem mm_ipx : ∀ cn, cn < 14 → ∀ e ∈ mm_ip cn, e.2.1 = 5 → (parseMethodDescriptor (mm_xn e.2.2.2.1).desc).map (fun d => d.parameters.length) = some e.2.2.1 := by decide +kernel
theorem mm_ipk : ∀ cn, cn < 14 → ∀ e ∈ mm_ip cn, e.2.1 = 0 ∨ e.2.1 = 1 ∨ e.2.1 = 2 ∨ e.2.1 = 3 ∨ e.2.1 = 4 ∨ e.2.1 = 5 ∨ e.2.1 = 7 ∨ e.2.1 = 10 ∨ e.2.1 = 11 ∨ e.2.1 = 12 ∨ e.2.1 = 13 ∨ e.2.1 = 14 := by decide +kernel
theorem mm_ms_ok : ∀ M, M < 201 → (mm_y M).cls = mm_own (mm_cn M) ∧ mm_cn M < 14 ∧ plainName (mm_y M).cls = true ∧ ((mm_y M).cls ≠ "java/lang/invoke/MethodHandle" ∧ (mm_y M).cls ≠ "java/lang/invoke/VarHandle") ∧ mm_mL M ≤ 15 := by decide +kernel
