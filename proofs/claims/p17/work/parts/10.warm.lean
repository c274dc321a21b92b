/-! the words of the tables hold at every warmer state -/
def mm_odd (w : Cond) : Bool := match w with
  | .methodLinkNest .. => true
  | .declares _ => true
  | .privateMethod _ => true
  | .castable .. => true
  | _ => false
def mm_nls (w : Cond) : Bool := match w with
  | .laysStatic .. => false
  | _ => true
def mm_lss : List (String × String × String) := [("java/lang/Throwable", "UNASSIGNED_STACK", "[Ljava/lang/StackTraceElement;"), ("java/lang/Throwable", "SUPPRESSED_SENTINEL", "Ljava/util/List;"), ("NearPicture$Measures", "PLAIN_OF_BYTES", "[I"), ("NearPicture$Measures", "PLAIN_LEAST", "[I"), ("NearPicture$Measures", "PLAIN_BY_NEAR", "[I"), ("NearPicture$Memory", "RUN_BITS", "[I")]
theorem mm_lsk : ∀ w ∈ lw_tbl, mm_nls w = true ∨ ∃ q ∈ mm_lss, w = .laysStatic q.1 q.2.1 q.2.2 := by decide +kernel
def mm_tb : List Cond := lw_tbl.filter mm_nls
theorem mm_gw : ∀ w ∈ lw_tbl, mm_nls w = true → goodWord w = true ∨ mm_odd w = true := by decide +kernel
theorem mm_warm {w : Cond} (hw : w ∈ mm_tb) {args a' : Array Value} {s U : State} (hW : s.WarmedH U.vm) (h : w.before args s = true) : w.before a' U = true := by
  obtain ⟨hw1, hw2⟩ := List.mem_filter.mp hw
  rcases mm_gw w hw1 hw2 with hg | ho
  · exact word_at hW (good_of_word hg) h
  · cases w with
    | methodLinkNest a i x t => exact va_Nw.use rfl (va_Nw.warmM hW (va_Nw.of rfl h))
    | declares x => exact va_Nw.use rfl (va_Nw.warmD hW (va_Nw.of rfl h))
    | privateMethod x => exact Cond.privateMethod_warm hW h
    | castable a b =>
      have h1 : (Cond.castable a b).before args (s.setVm U.vm) = true := by rw [Cond.castable_setVm hW.alike]; exact h
      exact va_tabs rfl (rfl : (s.setVm U.vm).vm = U.vm) h1
    | _ => cases ho
/-- a static field is laid, in a cell that nobody writes -/
def mm_Ls (C n d : String) (A : Nat → Prop) (U : State) (H : Heap) : Prop := ∃ (c : ClassId) (k : Class) (i : Nat) (f : Field) (a : Nat) (cell : Cell), U.vm.findClass C = some c ∧ U.fieldFound? C n d = some (c, k, i, f) ∧ f.isStatic = true ∧ k.statics = some a ∧ H[a]? = some cell ∧ cell.vm.isStatics = true ∧ cell.cls = c ∧ f.slot < cell.slots.size ∧ k.staticTypes[f.slot]? = some f.type ∧ ¬ A a
theorem mm_Ls_moved {C n d : String} {A : Nat → Prop} {u U : State} {H : Heap} (hvm : u.vm.Alike U.vm) (h : mm_Ls C n d A u H) : mm_Ls C n d A U H := by
  obtain ⟨c, k, i, f, a, cell, h1, h2, h3, h4, h5, h6, h7, h8, h9, h10⟩ := h
  obtain ⟨k', hi', he⟩ := State.fieldFound?_setVm hvm h2
  exact ⟨c, k', i, f, a, cell, by rw [hvm.findClass]; exact h1, hi', h3, by rw [he]; exact h4, h5, h6, h7, h8, by rw [he]; exact h9, h10⟩
theorem mm_Ls_kept {C n d : String} {A : Nat → Prop} {U : State} {H H1 : Heap} (h : mm_Ls C n d A U H) (hq : ∀ a : Nat, a < H.size → ¬ A a → H1[a]? = H[a]?) : mm_Ls C n d A U H1 := by
  obtain ⟨c, k, i, f, a, cell, h1, h2, h3, h4, h5, h6, h7, h8, h9, h10⟩ := h
  exact ⟨c, k, i, f, a, cell, h1, h2, h3, h4, by rw [hq a (Array.getElem?_eq_some_iff.mp h5).1 h10]; exact h5, h6, h7, h8, h9, h10⟩
theorem mm_Ls_use {C n d : String} {A : Nat → Prop} {U : State} {args : Array Value} (h : mm_Ls C n d A U U.heap) : (Cond.laysStatic C n d).before args U = true := by
  obtain ⟨c, k, i, f, a, cell, h1, h2, h3, h4, h5, h6, h7, h8, h9, h10⟩ := h
  simp [Cond.before, Cond.holds, Cond.value, h1, h2, h3, h4, h5, h6, h7, h8, h9]
theorem mm_Ls_of {C n d : String} {A : Nat → Prop} {U : State} {args : Array Value} (h : (Cond.laysStatic C n d).before args U = true) (hA : ∀ a : Nat, a < U.heap.size → ¬ A a) : mm_Ls C n d A U U.heap := by
  obtain ⟨c, k, i, f, a, cell, h1, h2, h3, h4, h5, h6, h7, h8, h9⟩ := Cond.laysStatic_spec h
  exact ⟨c, k, i, f, a, cell, h1, h2, h3, h4, h5, h6, h7, h8, h9, hA a (Array.getElem?_eq_some_iff.mp h5).1⟩
