/-! a throw of a new exception -/
abbrev mm_up : List String := ["java/lang/RuntimeException", "java/lang/Exception"]
def mm_xs : List (Nat × Nat) := [(0, 11), (0, 12), (0, 13), (8, 12)]
abbrev mm_u1 : Cond := .isRef (.static "java/lang/Throwable" "UNASSIGNED_STACK" "[Ljava/lang/StackTraceElement;")
abbrev mm_u2 : Cond := .isRef (.static "java/lang/Throwable" "SUPPRESSED_SENTINEL" "Ljava/util/List;")
theorem mm_xat : ∀ q ∈ mm_xs, ∀ a ∈ Bundle.ownAtoms0 (mm_own q.1) (mm_xic q.1 q.2) (mm_C q.2) mm_up, (a ∈ lw_tbl ∧ a.onTables = true) ∨ a = mm_u1 ∨ a = mm_u2 ∨ ∃ q ∈ mm_lss, a = .laysStatic q.1 q.2.1 q.2.2 := by decide +kernel
theorem mm_xin : ∀ q ∈ mm_xs, Cond.initialized (mm_C q.2) ∈ lw_tbl ∧ Bundle.fit (mm_C q.2) = true := by decide +kernel
theorem mm_xup : ∀ n ∈ mm_up, Bundle.fit n = true := by decide +kernel
theorem mm_xwh0 : ∀ cn, cn < 14 → ∀ x, x < 14 → mm_xic cn x = 0 ∨ mm_xs.any (fun q => q.1 == cn && q.2 == x) = true := by decide +kernel
theorem mm_xwh (cn : Nat) (hcn : cn < 14) (x : Nat) (hx : x < 14) (h : mm_xic cn x ≠ 0) : (cn, x) ∈ mm_xs := by
  rcases mm_xwh0 cn hcn x hx with h1 | h1
  · exact absurd h1 h
  · obtain ⟨q, hq, h2⟩ := List.any_eq_true.mp h1
    simp only [Bool.and_eq_true, beq_iff_eq] at h2
    obtain ⟨q1, q2⟩ := q
    obtain ⟨rfl, rfl⟩ := h2
    exact hq
theorem mm_x3 : ∀ q ∈ mm_xs, q.2 ∈ [11, 12, 13] ∧ mm_N q.2 = 0 := by decide +kernel
theorem mm_thr_ok {M pc ic : Nat} (h : mm_thr M pc = some ic) : (mm_code M)[pc + 3]? = some (some (.dup, 1)) ∧ (mm_code M)[pc + 4]? = some (some (.invokespecial ic, 3)) ∧ (mm_code M)[pc + 7]? = some (some (.athrow, 1)) ∧ mm_hh M = [] := by
  unfold mm_thr at h
  split at h
  · rename_i ic' h1 h2 h3
    split at h
    · rename_i hh
      cases h
      exact ⟨h1, h2, h3, by simpa using hh⟩
    · cases h
  · cases h
theorem mm_isRef {C n d : String} {A : Nat → Prop} {U : State} {args : Array Value} (h : va_Zq C n d A U U.heap) : (Cond.isRef (.static C n d)).before args U = true := by
  rcases h with ⟨cf, kf, fi, f, a, cell, h1, h2, h3, h4, h5, h6, h7, -⟩ | ⟨t, cf, kf, fi, f, a, cell, h1, h2, h3, h4, h5, h6, h7, -⟩
  · simp [Cond.before, Cond.holds, Cond.value, Term.eval, State.fieldNamed?, h1, h2, h4, h5, h6, h7]
  · simp [Cond.before, Cond.holds, Cond.value, Term.eval, State.fieldNamed?, h1, h2, h4, h5, h6, h7]
section MT
variable {p : Program} {l : Launch} {e : Env} {R : Room} {s : State} {m : MethodId} {args : Array Value} {below : List Frame} {meth : Method} {c : Code} {H : Heap} {locs : List Loc} {cells slots : Nat} {Q : State → Prop}
variable {D : va_G} {cA : FieldType → ClassId} {Z : Nat → Option (Nat × (Nat → Int32))} {sa : Nat → Nat} {h0 M pc : Nat} {w : mm_W} {ls : List (Option Value)} {st : List Value} {real : Array Slot}
/-- how a method ends, in the small machine's words -/
def mm_Qc (D : va_G) (cA : FieldType → ClassId) (sa : Nat → Nat) (h0 : Nat) (r : mm_Rs) (w' : mm_W) : Array Value → State → Outcome → State → Prop := fun _ u o t =>
  (match r with
    | .inl v => o = .returned (v.map (mm_rv (mm_rho h0 sa)))
    | .inr x => o = .threw (h0 + (w'.length - 1)) ∧ x ∈ [11, 12, 13] ∧ w'[w'.length - 1]? = some (.inr (x, [])) ∧ w'.length ≤ 1000000 ∧ 0 < w'.length) ∧
  mm_Hp D mm_cl (mm_rho h0 sa) cA h0 w' t.heap ∧ ∀ q : Nat, q < h0 → t.heap[q]? = u.heap[q]?
theorem mm_old_kept (hC : mm_Cx D cA Z sa h0 args s) (hH : mm_St D mm_cl (mm_rho h0 sa) cA h0 s w H locs cells) : ∀ q : Nat, q < h0 → H[q]? = s.heap[q]? := fun q hq => hH.2.1.2.1 q (Nat.lt_of_lt_of_le hq hC.2.2.2.1) (fun h => by have : h0 ≤ q := h; omega)
set_option maxHeartbeats 1000000 in
theorem mm_throw (hF : mm_Fx M p e s m meth c) (hC : mm_Cx D cA Z sa h0 args s) (hH : mm_St D mm_cl (mm_rho h0 sa) cA h0 s w H locs cells) (hL : mm_Lr (mm_rho h0 sa) (mm_mL M) ls real) {ix x : Nat} (hd : decode (mm_bytes M) pc = .ok (.new ix, 3)) (hcl : Cond.classLink (mm_own (mm_cn M)) ix (mm_C x) ∈ lw_tbl) (hx14 : x < 14)
    (hc : mm_thr M pc = some (mm_xic (mm_cn M) x) ∧ mm_xic (mm_cn M) x ≠ 0 ∧ w.length < 1000000 ∧ (st.map fun v => v.category).sum ≤ 8) (hcR : cells + 1 ≤ R.cells) (hsR : slots + 6 ≤ R.slots) (hfr : 6 ≤ R.frames) (hlo : 100 ≤ R.locals) :
    W p l e R s m args below meth c H locs cells slots (mx_Q below (mm_Qc D cA sa h0 (.inr x) (w ++ [.inr (x, [])])) args s (cells + 1) (slots + 6) (mm_A h0)) (F0 m pc real (st.map (mm_rv (mm_rho h0 sa)))) := by
  obtain ⟨hM, hx, hb, hml, ho, hr, hlk, hnm, htb, htr⟩ := hF
  have hcn := (mm_ms_ok M hM).2.1
  obtain ⟨hc1, hc2, hc3, hc4⟩ := hc
  obtain ⟨i3, i4, i7, hh0⟩ := mm_thr_ok hc1
  have hmem := mm_xwh _ hcn x hx14 hc2
  obtain ⟨x3, xN⟩ := mm_x3 _ hmem
  dsimp only at x3 xN
  have hrs : real.size = c.maxLocals := hL.2.1.trans hml.symm
  have hempty : c.exceptionTable.toList = [] := by
    rw [hh0] at htb
    exact List.map_eq_nil_iff.mp htb
  have hkeep : ∀ a : Nat, a < s.heap.size → ¬ mm_A h0 a → H[a]? = s.heap[a]? := hH.2.1.2.1
  have hO := mm_Olds_kept hkeep hC.2.2.1
  refine mx_throw (cls := mm_C x) (names := mm_up) (ix := ix) (ic := mm_xic (mm_cn M) x) hx hb htr.1 ho (mm_xin _ hmem).2 mm_xup ?_ hd (mm_dec hM i3).1 (mm_dec hM i4).1 (mm_dec hM i7).1 (by rw [hempty]; intro y hy; cases hy) hrs hlk hcR hsR (by show 2 + 3 < R.frames; omega) (by rw [mm_catsum]; show _ + 1 + (13 * 3 + 41) ≤ R.locals; omega) ?_
  · intro U hvm hheap a hal
    have tab : ∀ a ∈ lw_tbl, a.onTables = true → a.before args U = true := fun a h1 h2 => va_tabs h2 hvm.symm (hC.1 a h1)
    have hOU : mm_Olds Z sa h0 U U.heap := by rw [hheap]; exact mm_Olds_moved (by rw [hvm]; exact Vm.Alike.refl _) hO
    rcases List.mem_cons.mp hal with rfl | hal
    · exact tab _ hcl rfl
    rcases List.mem_cons.mp hal with rfl | hal
    · exact tab _ (mm_xin _ hmem).1 rfl
    rcases mm_xat _ hmem a hal with ⟨h1, h2⟩ | rfl | rfl | ⟨q, hq, rfl⟩
    · exact tab a h1 h2
    · exact mm_isRef hOU.2.2.1
    · exact mm_isRef hOU.2.2.2.1
    · exact mm_Ls_use (hOU.2.2.2.2 q hq)
  · intro t ce hsz hold hce hfc hvm hrun hend hW hsame
    have e1 := hH.1.2
    have hlen : (w ++ [(Sum.inr (x, []) : mm_E)]).length - 1 = w.length := by simp
    have kept : ∀ q : Nat, q < H.size → t.heap[q]? = H[q]? := by
      intro q hq
      have h2 : H[q]? = some H[q] := Array.getElem?_eq_getElem hq
      rw [h2]
      exact hold q _ h2
    refine ⟨.threw H.size, hrun, hend, ⟨⟨?_, x3, ?_, ?_, ?_⟩, ⟨?_, ?_⟩, ?_⟩, locs, ⟨hW, hsame⟩, hH.2.1.2.2⟩
    · rw [hlen, e1]
    · rw [hlen, List.getElem?_append_right (Nat.le_refl _), Nat.sub_self]; rfl
    · simp; omega
    · simp
    · rw [mm_ws_push]
      refine va_P.app (hH.1.1.kept (fun k q hq => kept _ ((hH.1.1 k q hq).lt))) (fun k q hq => ?_)
      have hz : k < 1 := (List.getElem?_eq_some_iff.mp hq).1
      rw [show k = 0 by omega] at hq
      cases hq
      have hK := hC.2.1.1 x _ (mm_cl_at x hx14)
      refine ⟨_, mm_cl_at x hx14, ce, ?_, ?_, hvm, fun k hk => ?_⟩
      · show t.heap[h0 + w.length]? = some ce
        rw [← e1]; exact hce
      · exact Option.some.inj (hfc.symm.trans hK.2.1)
      · exfalso
        have : k < mm_N x := hk
        omega
    · rw [hsz, e1]; simp; omega
    · intro q hq
      rw [kept q (by omega)]
      exact mm_old_kept hC hH q hq
end MT
