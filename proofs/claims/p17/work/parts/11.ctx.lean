/-! what stands at every point of a walk -/
def mm_Olds (Z : Nat → Option (Nat × (Nat → Int32))) (sa : Nat → Nat) (h0 : Nat) (U : State) (H : Heap) : Prop :=
  (∀ (j n : Nat) (f : Nat → Int32), Z j = some (n, f) → va_T .int (sa j) n (fun k => .int (f k)) (mm_A h0) U H) ∧
  (∀ j, j < 4 → va_Z (mm_sn j).1 (mm_sn j).2 "[I" (.ref (sa j)) (mm_A h0) U H) ∧
  va_Zq "java/lang/Throwable" "UNASSIGNED_STACK" "[Ljava/lang/StackTraceElement;" (mm_A h0) U H ∧ va_Zq "java/lang/Throwable" "SUPPRESSED_SENTINEL" "Ljava/util/List;" (mm_A h0) U H ∧ ∀ q ∈ mm_lss, mm_Ls q.1 q.2.1 q.2.2 (mm_A h0) U H
theorem mm_Olds_moved {Z : Nat → Option (Nat × (Nat → Int32))} {sa : Nat → Nat} {h0 : Nat} {u U : State} {H : Heap} (hvm : u.vm.Alike U.vm) (h : mm_Olds Z sa h0 u H) : mm_Olds Z sa h0 U H :=
  ⟨fun j n f hj => va_T.moved hvm (h.1 j n f hj), fun j hj => va_Z.moved hvm (h.2.1 j hj), va_Zq.moved hvm h.2.2.1, va_Zq.moved hvm h.2.2.2.1, fun q hq => mm_Ls_moved hvm (h.2.2.2.2 q hq)⟩
theorem mm_Olds_kept {Z : Nat → Option (Nat × (Nat → Int32))} {sa : Nat → Nat} {h0 : Nat} {U : State} {H H1 : Heap} (hq : ∀ a : Nat, a < H.size → ¬ mm_A h0 a → H1[a]? = H[a]?) (h : mm_Olds Z sa h0 U H) : mm_Olds Z sa h0 U H1 :=
  ⟨fun j n f hj => va_T.kept (h.1 j n f hj) hq, fun j hj => va_Z.kept (h.2.1 j hj) hq, va_Zq.kept h.2.2.1 hq, va_Zq.kept h.2.2.2.1 hq, fun q h9 => mm_Ls_kept (h.2.2.2.2 q h9) hq⟩
def mm_Ncs (U : State) : Prop := ∀ x, x ∈ [11, 12, 13] → ∀ y, y ∈ [11, 12, 13] → x ≠ y → va_Nc (mm_C x) (mm_C y) U
theorem mm_Ncs_moved {u U : State} (hvm : u.vm.Alike U.vm) (h : mm_Ncs u) : mm_Ncs U := by
  intro x hx y hy hxy
  obtain ⟨c, t, h1, h2, h3⟩ := h x hx y hy hxy
  exact ⟨c, t, by rw [hvm.findClass]; exact h1, by rw [hvm.findClass]; exact h2, by rw [hvm.assignable]; exact h3⟩
def mm_Cx (D : va_G) (cA : FieldType → ClassId) (Z : Nat → Option (Nat × (Nat → Int32))) (sa : Nat → Nat) (h0 : Nat) (args : Array Value) (s : State) : Prop :=
  (∀ w ∈ lw_tbl, w.before args s = true) ∧ va_K D mm_cl (mm_tys cA) s ∧ mm_Olds Z sa h0 s s.heap ∧ h0 ≤ s.heap.size ∧ mm_Ncs s
def mm_Fx (M : Nat) (p : Program) (e : Env) (s : State) (m : MethodId) (meth : Method) (c : Code) : Prop :=
  M < 201 ∧ p.tables.exec = Jvm.exec ∧ c.code = mm_bytes M ∧ c.maxLocals = mm_mL M ∧ s.vm.findClass (mm_own (mm_cn M)) = some m.cls ∧ meth.sig.returnType = mm_rt M ∧ meth.locks = false ∧ meth.name = (mm_y M).name ∧
    c.exceptionTable.toList.map (fun h => (h.startPc, h.endPc, h.handlerPc, h.catchType)) = mm_hh M ∧ e.platform.stackTraces = false ∧ e.platform.magicAccessors = ({} : Platform).magicAccessors
/-- slots of a cell, of a world -/
def mm_cs (E : mm_E) : Nat := match E with
  | .inl (_, a) => a.1
  | .inr (ci, _) => if ci < 11 then mm_N ci else 6
def mm_sl (w : mm_W) : Nat := (w.map mm_cs).sum
theorem mm_sl_push (w : mm_W) (E : mm_E) : mm_sl (w ++ [E]) = mm_sl w + mm_cs E := by simp [mm_sl]
theorem mm_sl_set : ∀ (w : mm_W) (k : Nat) (E F : mm_E), w[k]? = some E → mm_cs F = mm_cs E → mm_sl (w.set k F) = mm_sl w
  | [], _, _, _, h, _ => by cases h
  | a :: w, 0, E, F, h, he => by
    cases h
    simp [mm_sl, he]
  | a :: w, k + 1, E, F, h, he => by
    have := mm_sl_set w k E F h he
    show mm_cs a + ((w.set k F).map mm_cs).sum = mm_cs a + (w.map mm_cs).sum
    rw [show ((w.set k F).map mm_cs).sum = (w.map mm_cs).sum from this]
theorem mm_fits_ok {ρ : Nat → Nat} {ty : FieldType} {v : Value} (h : mm_fits ty v = true) : narrow ty (mm_rv ρ v) = mm_rv ρ v ∧ fits ty (mm_rv ρ v) = true := by
  cases ty <;> cases v <;> simp only [mm_fits] at h <;> first | (cases h; done) | exact ⟨rfl, rfl⟩ | skip
  rename_i x
  simp only [Bool.or_eq_true, decide_eq_true_eq] at h
  rcases h with rfl | rfl
  · exact ⟨show narrow .boolean (.int 0) = .int 0 by decide, show fits .boolean (.int 0) = true by decide⟩
  · exact ⟨show narrow .boolean (.int 1) = .int 1 by decide, show fits .boolean (.int 1) = true by decide⟩
theorem mm_obj_ok {w : mm_W} {a cj : Nat} {fs : List Value} (h : mm_obj w a = some (cj, fs)) : a < 1000000 ∧ w[a]? = some (.inr (cj, fs)) := by
  unfold mm_obj at h
  split at h
  · rename_i ha
    split at h
    · rename_i q hq; cases h; exact ⟨ha, hq⟩
    · cases h
  · cases h
theorem mm_ar_ok {w : mm_W} {a : Nat} {q : FieldType × vp_A} (h : mm_ar w a = some q) : a < 1000000 ∧ w[a]? = some (.inl q) := by
  unfold mm_ar at h
  split at h
  · rename_i ha
    split at h
    · rename_i q hq; cases h; exact ⟨ha, hq⟩
    · cases h
  · cases h
theorem mm_rho_lt {h0 a : Nat} {sa : Nat → Nat} (h : a < 1000000) : mm_rho h0 sa a = h0 + a := if_pos h
theorem mm_rho_ge {h0 j : Nat} {sa : Nat → Nat} : mm_rho h0 sa (1000000 + j) = sa j := by
  unfold mm_rho
  rw [if_neg (by omega), Nat.add_sub_cancel_left]
theorem mm_fld_ok {cn ix cj k : Nat} (hcn : cn < 14) (h : mm_fld cn ix cj = some k) : ∃ ref, cj < 11 ∧ k < mm_N cj ∧ Cond.fieldLink (mm_own cn) ix ref (mm_T cj k).2.1 (mm_T cj k).2.2.1 ∈ lw_tbl ∧
    (ref = (mm_T cj k).1 ∨ Cond.sameField ref (mm_T cj k).1 (mm_T cj k).2.1 (mm_T cj k).2.2.1 ∈ lw_tbl) := by
  unfold mm_fld at h
  split at h
  · rename_i q hq
    split at h
    · rename_i a ha
      cases h
      obtain ⟨h1, h2, h3, h4⟩ := mm_fp_ok cn hcn (ix, q) (mm_lk_mem _ _ _ hq) (cj, a) (mm_lk_mem _ _ _ ha)
      refine ⟨q.2.1, h1, h2, List.mem_of_getElem? h3, ?_⟩
      rcases h4 with h4 | h4
      · exact Or.inl h4
      · exact Or.inr (List.mem_of_getElem? h4)
    · cases h
  · cases h
theorem mm_ipt : ∀ cn, cn < 14 → ∀ e ∈ mm_ip cn, e.2.2.2.2 ≠ [] := by decide +kernel
