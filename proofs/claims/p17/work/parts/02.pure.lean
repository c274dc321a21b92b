/-! a small machine: values whose references are logical numbers; the instructions that touch no heap -/
def mm_cmp (c : Jvm.ClassFile.Cond) (x y : Int32) : Bool := match c with
  | .eq => decide (x = y)
  | .ne => !decide (x = y)
  | .lt => decide (x < y)
  | .ge => decide (y ≤ x)
  | .gt => decide (y < x)
  | .le => decide (x ≤ y)
abbrev mm_F : Type := Nat × List (Option Value) × List Value
def mm_jump (pc : Nat) (off : Int) (ls : List (Option Value)) (st : List Value) : Option mm_F :=
  if 0 ≤ (pc : Int) + off then some (((pc : Int) + off).toNat, ls, st) else none
def mm_iload (i pc' : Nat) (ls : List (Option Value)) (st : List Value) : Option mm_F := match ls[i]? with
  | some (some (.int x)) => some (pc', ls, .int x :: st)
  | _ => none
def mm_aload (i pc' : Nat) (ls : List (Option Value)) (st : List Value) : Option mm_F := match ls[i]? with
  | some (some (.ref a)) => some (pc', ls, .ref a :: st)
  | some (some .null) => some (pc', ls, .null :: st)
  | _ => none
def mm_istore (i pc' : Nat) (ls : List (Option Value)) (st : List Value) : Option mm_F := match st with
  | .int x :: r => if i < ls.length then some (pc', ls.set i (some (.int x)), r) else none
  | _ => none
def mm_astore (i pc' : Nat) (ls : List (Option Value)) (st : List Value) : Option mm_F := match st with
  | .ref x :: r => if i < ls.length then some (pc', ls.set i (some (.ref x)), r) else none
  | .null :: r => if i < ls.length then some (pc', ls.set i (some .null), r) else none
  | _ => none
def mm_iinc (i pc' : Nat) (n : Int) (ls : List (Option Value)) (st : List Value) : Option mm_F := match ls[i]? with
  | some (some (.int x)) => some (pc', ls.set i (some (.int (x + Int32.ofInt n))), st)
  | _ => none
def mm_bin (f : Int32 → Int32 → Int32) (pc' : Nat) (ls : List (Option Value)) (st : List Value) : Option mm_F := match st with
  | .int y :: .int x :: r => some (pc', ls, .int (f x y) :: r)
  | _ => none
def mm_div (f : Int32 → Int32 → Int32) (pc' : Nat) (ls : List (Option Value)) (st : List Value) : Option mm_F := match st with
  | .int y :: .int x :: r => if y = 0 then none else some (pc', ls, .int (f x y) :: r)
  | _ => none
def mm_un (f : Int32 → Int32) (pc' : Nat) (ls : List (Option Value)) (st : List Value) : Option mm_F := match st with
  | .int x :: r => some (pc', ls, .int (f x) :: r)
  | _ => none
def mm_i2l (pc' : Nat) (ls : List (Option Value)) (st : List Value) : Option mm_F := match st with
  | .int x :: r => some (pc', ls, .long x.toInt64 :: r)
  | _ => none
def mm_lshl (pc' : Nat) (ls : List (Option Value)) (st : List Value) : Option mm_F := match st with
  | .int y :: .long x :: r => some (pc', ls, .long (x <<< (y.toInt64 &&& 63)) :: r)
  | _ => none
def mm_lcmp (pc' : Nat) (ls : List (Option Value)) (st : List Value) : Option mm_F := match st with
  | .long y :: .long x :: r => some (pc', ls, .int (lg_cmp x y) :: r)
  | _ => none
def mm_dup (pc' : Nat) (ls : List (Option Value)) (st : List Value) : Option mm_F := match st with
  | v :: r => if v.category = 1 then some (pc', ls, v :: v :: r) else none
  | _ => none
def mm_dupx1 (pc' : Nat) (ls : List (Option Value)) (st : List Value) : Option mm_F := match st with
  | v :: u :: r => if v.category = 1 ∧ u.category = 1 then some (pc', ls, v :: u :: v :: r) else none
  | _ => none
def mm_dupx2 (pc' : Nat) (ls : List (Option Value)) (st : List Value) : Option mm_F := match st with
  | v :: u :: x :: r => if v.category = 1 ∧ u.category = 1 ∧ x.category = 1 then some (pc', ls, v :: u :: x :: v :: r) else none
  | _ => none
def mm_dup2 (pc' : Nat) (ls : List (Option Value)) (st : List Value) : Option mm_F := match st with
  | v :: u :: r => if v.category = 1 ∧ u.category = 1 then some (pc', ls, v :: u :: v :: u :: r) else none
  | _ => none
def mm_pop (pc' : Nat) (ls : List (Option Value)) (st : List Value) : Option mm_F := match st with
  | v :: r => if v.category = 1 then some (pc', ls, r) else none
  | _ => none
def mm_br (b : Bool) (pc : Nat) (off : Int) (ls : List (Option Value)) (st : List Value) : Option mm_F := match mm_jump pc off ls st with
  | some q => if b = true then some q else some (pc + 3, ls, st)
  | none => none
def mm_if1 (c : Jvm.ClassFile.Cond) (pc : Nat) (off : Int) (ls : List (Option Value)) (st : List Value) : Option mm_F := match st with
  | .int x :: r => mm_br (mm_cmp c x 0) pc off ls r
  | _ => none
def mm_if2 (c : Jvm.ClassFile.Cond) (pc : Nat) (off : Int) (ls : List (Option Value)) (st : List Value) : Option mm_F := match st with
  | .int y :: .int x :: r => mm_br (mm_cmp c x y) pc off ls r
  | _ => none
def mm_tsw (dflt lo hi : Int) (offs : Array Int) (pc : Nat) (ls : List (Option Value)) (st : List Value) : Option mm_F := match st with
  | .int x :: r => if x.toInt < lo ∨ hi < x.toInt then mm_jump pc dflt ls r else match offs[(x.toInt - lo).toNat]? with
    | some off => mm_jump pc off ls r
    | none => none
  | _ => none
def mm_lsw (dflt : Int) (ps : Array (Int × Int)) (pc : Nat) (ls : List (Option Value)) (st : List Value) : Option mm_F := match st with
  | .int x :: r => if (ps.toList.zip (ps.toList.drop 1)).all (fun (a, next) => a.1 < next.1) = true then mm_jump pc (Op.lookupswitch.offset ps.toList dflt x.toInt) ls r else none
  | _ => none
def mm_pure (i : Instr) (pc : Nat) (ls : List (Option Value)) (st : List Value) : Option mm_F := match i with
  | .iconst n => some (pc + 1, ls, .int (Int32.ofInt n) :: st)
  | .bipush n => some (pc + 2, ls, .int (Int8.ofInt n).toInt32 :: st)
  | .sipush n => some (pc + 3, ls, .int (Int16.ofInt n).toInt32 :: st)
  | .iload_n k => mm_iload k (pc + 1) ls st
  | .iload k => mm_iload k (pc + 2) ls st
  | .aload_n k => mm_aload k (pc + 1) ls st
  | .aload k => mm_aload k (pc + 2) ls st
  | .istore_n k => mm_istore k (pc + 1) ls st
  | .istore k => mm_istore k (pc + 2) ls st
  | .astore_n k => mm_astore k (pc + 1) ls st
  | .astore k => mm_astore k (pc + 2) ls st
  | .iinc k n => mm_iinc k (pc + 3) n ls st
  | .iadd => mm_bin (fun x y => x + y) (pc + 1) ls st
  | .isub => mm_bin (fun x y => x - y) (pc + 1) ls st
  | .imul => mm_bin (fun x y => x * y) (pc + 1) ls st
  | .iand => mm_bin (fun x y => x &&& y) (pc + 1) ls st
  | .ior => mm_bin (fun x y => x ||| y) (pc + 1) ls st
  | .ixor => mm_bin (fun x y => x ^^^ y) (pc + 1) ls st
  | .ishl => mm_bin (fun x y => x <<< (y &&& 31)) (pc + 1) ls st
  | .ishr => mm_bin (fun x y => x >>> (y &&& 31)) (pc + 1) ls st
  | .iushr => mm_bin (fun x y => (x.toUInt32 >>> (y.toUInt32 &&& Int32.toUInt32 31)).toInt32) (pc + 1) ls st
  | .idiv => mm_div (fun x y => x / y) (pc + 1) ls st
  | .irem => mm_div (fun x y => x - x / y * y) (pc + 1) ls st
  | .ineg => mm_un (fun x => -x) (pc + 1) ls st
  | .i2b => mm_un (fun x => x.toInt8.toInt32) (pc + 1) ls st
  | .i2l => mm_i2l (pc + 1) ls st
  | .lshl => mm_lshl (pc + 1) ls st
  | .lcmp => mm_lcmp (pc + 1) ls st
  | .dup => mm_dup (pc + 1) ls st
  | .dup_x1 => mm_dupx1 (pc + 1) ls st
  | .dup_x2 => mm_dupx2 (pc + 1) ls st
  | .dup2 => mm_dup2 (pc + 1) ls st
  | .pop => mm_pop (pc + 1) ls st
  | .ifCond c off => mm_if1 c pc off ls st
  | .if_icmp c off => mm_if2 c pc off ls st
  | .goto off => mm_jump pc off ls st
  | .tableswitch dflt lo hi offs => mm_tsw dflt lo hi offs pc ls st
  | .lookupswitch dflt ps => mm_lsw dflt ps pc ls st
  | _ => none
/-- the length of an instruction: one that a switch has is not asked -/
def mm_len (i : Instr) : Nat := match i with
  | .bipush _ | .iload _ | .aload _ | .istore _ | .astore _ | .newarray _ | .ldc _ => 2
  | .sipush _ | .iinc _ _ | .ifCond _ _ | .if_icmp _ _ | .goto _ | .getfield _ | .putfield _ | .getstatic _ | .new _ | .invokestatic _ | .invokevirtual _ | .invokespecial _ | .ldc_w _ => 3
  | _ => 1
def mm_sw (i : Instr) : Bool := match i with
  | .tableswitch _ _ _ _ | .lookupswitch _ _ => true
  | _ => false
def mm_lenok (i : Instr) (len : Nat) : Prop := mm_sw i = false → len = mm_len i
/-! values and locals -/
def mm_rv (ρ : Nat → Nat) (v : Value) : Value := match v with
  | .ref k => .ref (ρ k)
  | v => v
theorem mm_rv_cat (ρ : Nat → Nat) (v : Value) : (mm_rv ρ v).category = v.category := by cases v <;> rfl
def mm_Lr (ρ : Nat → Nat) (nL : Nat) (ls : List (Option Value)) (real : Array Slot) : Prop :=
  ls.length = nL ∧ real.size = nL ∧ lv_wf real ∧ ∀ (i : Nat) (v : Value), ls[i]? = some (some v) → v.category = 1 ∧ real[i]? = some (.val (mm_rv ρ v))
def mm_lv (ρ : Nat → Nat) (ls : List (Option Value)) : List (Nat × Value) := (List.range ls.length).filterMap (fun j => match ls[j]? with
  | some (some v) => some (j, mm_rv ρ v)
  | _ => none)
theorem mm_lv_mem {ρ : Nat → Nat} {ls : List (Option Value)} {q : Nat × Value} : q ∈ mm_lv ρ ls ↔ ∃ v, ls[q.1]? = some (some v) ∧ q.2 = mm_rv ρ v := by
  unfold mm_lv
  rw [List.mem_filterMap]
  constructor
  · rintro ⟨j, -, hj⟩
    split at hj
    · rename_i v hv
      cases hj
      exact ⟨v, hv, rfl⟩
    · cases hj
  · rintro ⟨v, hv, hq⟩
    refine ⟨q.1, List.mem_range.mpr (List.getElem?_eq_some_iff.mp hv).1, ?_⟩
    rw [hv]
    obtain ⟨a, b⟩ := q
    dsimp only at hq ⊢
    rw [hq]
theorem mm_lv_has {ρ : Nat → Nat} {nL : Nat} {ls : List (Option Value)} {real : Array Slot} (h : mm_Lr ρ nL ls real) : lv_has real nL (mm_lv ρ ls) := by
  refine ⟨h.2.1, h.2.2.1, fun q hq => ?_⟩
  obtain ⟨v, h1, h2⟩ := mm_lv_mem.mp hq
  rw [h2]
  exact (h.2.2.2 _ _ h1).2
theorem mm_lv_set {ρ : Nat → Nat} {nL i : Nat} {ls : List (Option Value)} {real real' : Array Slot} {v : Value} (h : mm_Lr ρ nL ls real) (hv : v.category = 1)
    (h' : lv_has real' nL ((i, mm_rv ρ v) :: (mm_lv ρ ls).filter (fun q => !(q.1 == i) && !(q.1 + 1 == i && q.2.category == 2)))) : mm_Lr ρ nL (ls.set i (some v)) real' := by
  refine ⟨by rw [List.length_set]; exact h.1, h'.1, h'.2.1, fun j u hj => ?_⟩
  rw [List.getElem?_set] at hj
  split at hj
  · rename_i hij
    subst hij
    split at hj
    · cases hj
      exact ⟨hv, h'.2.2 (i, mm_rv ρ v) List.mem_cons_self⟩
    · cases hj
  · rename_i hij
    obtain ⟨h1, -⟩ := h.2.2.2 _ _ hj
    refine ⟨h1, h'.2.2 (j, mm_rv ρ u) (List.mem_cons_of_mem _ (List.mem_filter.mpr ⟨mm_lv_mem.mpr ⟨u, hj, rfl⟩, ?_⟩))⟩
    have h2 : (mm_rv ρ u).category = 1 := (mm_rv_cat ρ u).trans h1
    simp [h2, Ne.symm hij]
section MP
variable {p : Program} {l : Launch} {e : Env} {R : Room} {s : State} {m : MethodId} {args : Array Value} {below : List Frame} {meth : Method} {c : Code} {H : Heap} {locs : List Loc} {cells slots : Nat} {Q : State → Prop}
variable {cc : ByteArray} {pc nL : Nat} {ρ : Nat → Nat} {ls ls' : List (Option Value)} {st st' : List Value} {real : Array Slot} {pc' len : Nat}
theorem mm_jump_ok {off : Int} (h : mm_jump pc off ls st = some (pc', ls', st')) : (pc : Int) + off = (pc' : Int) ∧ ls' = ls ∧ st' = st := by
  unfold mm_jump at h
  split at h
  · cases h
    refine ⟨?_, rfl, rfl⟩
    omega
  · cases h
theorem mm_iload_ok {i : Nat} {q : Nat} (h : mm_iload i q ls st = some (pc', ls', st')) : ∃ x, ls[i]? = some (some (.int x)) ∧ pc' = q ∧ ls' = ls ∧ st' = .int x :: st := by
  unfold mm_iload at h
  split at h
  · rename_i x hx; cases h; exact ⟨x, hx, rfl, rfl, rfl⟩
  · cases h
theorem mm_aload_ok {i : Nat} {q : Nat} (h : mm_aload i q ls st = some (pc', ls', st')) : ∃ v, ls[i]? = some (some v) ∧ (v = .null ∨ ∃ a, v = .ref a) ∧ pc' = q ∧ ls' = ls ∧ st' = v :: st := by
  unfold mm_aload at h
  split at h
  · rename_i x hx; cases h; exact ⟨_, hx, Or.inr ⟨x, rfl⟩, rfl, rfl, rfl⟩
  · rename_i hx; cases h; exact ⟨_, hx, Or.inl rfl, rfl, rfl, rfl⟩
  · cases h
theorem mm_istore_ok {i q : Nat} (h : mm_istore i q ls st = some (pc', ls', st')) : ∃ x r, st = .int x :: r ∧ i < ls.length ∧ pc' = q ∧ ls' = ls.set i (some (.int x)) ∧ st' = r := by
  unfold mm_istore at h
  split at h
  · rename_i x r
    split at h
    · rename_i hi; cases h; exact ⟨x, _, rfl, hi, rfl, rfl, rfl⟩
    · cases h
  · cases h
theorem mm_astore_ok {i q : Nat} (h : mm_astore i q ls st = some (pc', ls', st')) : ∃ v r, st = v :: r ∧ (v = .null ∨ ∃ a, v = .ref a) ∧ i < ls.length ∧ pc' = q ∧ ls' = ls.set i (some v) ∧ st' = r := by
  unfold mm_astore at h
  split at h
  · rename_i x r
    split at h
    · rename_i hi; cases h; exact ⟨_, _, rfl, Or.inr ⟨x, rfl⟩, hi, rfl, rfl, rfl⟩
    · cases h
  · rename_i r
    split at h
    · rename_i hi; cases h; exact ⟨_, _, rfl, Or.inl rfl, hi, rfl, rfl, rfl⟩
    · cases h
  · cases h
theorem mm_bin_ok {f : Int32 → Int32 → Int32} {q : Nat} (h : mm_bin f q ls st = some (pc', ls', st')) : ∃ x y r, st = .int y :: .int x :: r ∧ pc' = q ∧ ls' = ls ∧ st' = .int (f x y) :: r := by
  unfold mm_bin at h
  split at h
  · rename_i y x r; cases h; exact ⟨x, y, r, rfl, rfl, rfl, rfl⟩
  · cases h
theorem mm_div_ok {f : Int32 → Int32 → Int32} {q : Nat} (h : mm_div f q ls st = some (pc', ls', st')) : ∃ x y r, st = .int y :: .int x :: r ∧ ¬ y = 0 ∧ pc' = q ∧ ls' = ls ∧ st' = .int (f x y) :: r := by
  unfold mm_div at h
  split at h
  · rename_i y x r
    split at h
    · cases h
    · rename_i hy; cases h; exact ⟨x, y, r, rfl, hy, rfl, rfl, rfl⟩
  · cases h
theorem mm_un_ok {f : Int32 → Int32} {q : Nat} (h : mm_un f q ls st = some (pc', ls', st')) : ∃ x r, st = .int x :: r ∧ pc' = q ∧ ls' = ls ∧ st' = .int (f x) :: r := by
  unfold mm_un at h
  split at h
  · rename_i x r; cases h; exact ⟨x, r, rfl, rfl, rfl, rfl⟩
  · cases h
end MP
section MP2
variable {p : Program} {l : Launch} {e : Env} {R : Room} {s : State} {m : MethodId} {args : Array Value} {below : List Frame} {meth : Method} {c : Code} {H : Heap} {locs : List Loc} {cells slots : Nat} {Q : State → Prop}
variable {cc : ByteArray} {pc nL : Nat} {ρ : Nat → Nat} {ls ls' : List (Option Value)} {st st' : List Value} {real : Array Slot} {pc' len : Nat}
theorem mm_br_ok {b : Bool} {off : Int} (h : mm_br b pc off ls st = some (pc', ls', st')) : ∃ tgt : Nat, (pc : Int) + off = (tgt : Int) ∧ ls' = ls ∧ st' = st ∧ pc' = if b = true then tgt else pc + 3 := by
  unfold mm_br at h
  split at h
  · rename_i q hq
    obtain ⟨tgt, l2, s2⟩ := q
    obtain ⟨h1, rfl, rfl⟩ := mm_jump_ok hq
    refine ⟨tgt, h1, ?_⟩
    split at h
    · rename_i hb; cases h; simp [hb]
    · rename_i hb; cases h; simp [hb]
  · cases h
theorem mm_if1_ok {cnd : Jvm.ClassFile.Cond} {off : Int} {x : Int32} {rest : List Value} {tgt : Nat} (hexec : p.tables.exec = Jvm.exec) (hb : c.code = cc) (hdg : decode cc pc = .ok (.ifCond cnd off, 3)) (ht : (pc : Int) + off = (tgt : Int))
    (hp : pc' = if mm_cmp cnd x 0 = true then tgt else pc + 3) (k : W p l e R s m args below meth c H locs cells slots Q (F0 m pc' real rest)) : W p l e R s m args below meth c H locs cells slots Q (F0 m pc real (.int x :: rest)) := by
  by_cases hc : mm_cmp cnd x 0 = true
  · rw [if_pos hc] at hp
    subst hp
    cases cnd <;> simp only [mm_cmp, decide_eq_true_eq, Bool.not_eq_true', decide_eq_false_iff_not] at hc
    · exact lv_if_eq hexec hb hdg ht (fun _ => k) (fun g => absurd hc g)
    · exact lv_if_ne hexec hb hdg ht (fun _ => k) (fun g => absurd g hc)
    · exact lv_if_lt hexec hb hdg ht (fun _ => k) (fun g => absurd hc g)
    · exact lv_if_ge hexec hb hdg ht (fun _ => k) (fun g => absurd hc g)
    · exact lv_if_gt hexec hb hdg ht (fun _ => k) (fun g => absurd hc g)
    · exact lv_if_le hexec hb hdg ht (fun _ => k) (fun g => absurd hc g)
  · rw [if_neg hc] at hp
    subst hp
    cases cnd <;> simp only [mm_cmp, decide_eq_true_eq, Bool.not_eq_true', decide_eq_false_iff_not, Classical.not_not] at hc
    · exact lv_if_eq hexec hb hdg ht (fun g => absurd g hc) (fun _ => k)
    · exact lv_if_ne hexec hb hdg ht (fun g => absurd hc g) (fun _ => k)
    · exact lv_if_lt hexec hb hdg ht (fun g => absurd g hc) (fun _ => k)
    · exact lv_if_ge hexec hb hdg ht (fun g => absurd g hc) (fun _ => k)
    · exact lv_if_gt hexec hb hdg ht (fun g => absurd g hc) (fun _ => k)
    · exact lv_if_le hexec hb hdg ht (fun g => absurd g hc) (fun _ => k)
theorem mm_if2_ok {cnd : Jvm.ClassFile.Cond} {off : Int} {x y : Int32} {rest : List Value} {tgt : Nat} (hexec : p.tables.exec = Jvm.exec) (hb : c.code = cc) (hdg : decode cc pc = .ok (.if_icmp cnd off, 3)) (ht : (pc : Int) + off = (tgt : Int))
    (hp : pc' = if mm_cmp cnd x y = true then tgt else pc + 3) (k : W p l e R s m args below meth c H locs cells slots Q (F0 m pc' real rest)) : W p l e R s m args below meth c H locs cells slots Q (F0 m pc real (.int y :: .int x :: rest)) := by
  by_cases hc : mm_cmp cnd x y = true
  · rw [if_pos hc] at hp
    subst hp
    cases cnd <;> simp only [mm_cmp, decide_eq_true_eq, Bool.not_eq_true', decide_eq_false_iff_not] at hc
    · exact lv_icmp_eq hexec hb hdg ht (fun _ => k) (fun g => absurd hc g)
    · exact lv_icmp_ne hexec hb hdg ht (fun _ => k) (fun g => absurd g hc)
    · exact lv_icmp_lt hexec hb hdg ht (fun _ => k) (fun g => absurd hc g)
    · exact lv_icmp_ge hexec hb hdg ht (fun _ => k) (fun g => absurd hc g)
    · exact lv_icmp_gt hexec hb hdg ht (fun _ => k) (fun g => absurd hc g)
    · exact lv_icmp_le hexec hb hdg ht (fun _ => k) (fun g => absurd hc g)
  · rw [if_neg hc] at hp
    subst hp
    cases cnd <;> simp only [mm_cmp, decide_eq_true_eq, Bool.not_eq_true', decide_eq_false_iff_not, Classical.not_not] at hc
    · exact lv_icmp_eq hexec hb hdg ht (fun g => absurd g hc) (fun _ => k)
    · exact lv_icmp_ne hexec hb hdg ht (fun g => absurd hc g) (fun _ => k)
    · exact lv_icmp_lt hexec hb hdg ht (fun g => absurd g hc) (fun _ => k)
    · exact lv_icmp_ge hexec hb hdg ht (fun g => absurd g hc) (fun _ => k)
    · exact lv_icmp_gt hexec hb hdg ht (fun g => absurd g hc) (fun _ => k)
    · exact lv_icmp_le hexec hb hdg ht (fun g => absurd g hc) (fun _ => k)
theorem mm_pure_ok {i : Instr} (hexec : p.tables.exec = Jvm.exec) (hb : c.code = cc) (hdg : decode cc pc = .ok (i, len)) (hlen : mm_lenok i len) (h : mm_pure i pc ls st = some (pc', ls', st')) (hL : mm_Lr ρ nL ls real)
    (k : ∀ real', mm_Lr ρ nL ls' real' → W p l e R s m args below meth c H locs cells slots Q (F0 m pc' real' (st'.map (mm_rv ρ)))) : W p l e R s m args below meth c H locs cells slots Q (F0 m pc real (st.map (mm_rv ρ))) := by
  cases i with
  | iconst n =>
    cases hlen rfl
    cases h
    exact lv_iconst hexec hb hdg rfl (k _ hL)
  | bipush n =>
    cases hlen rfl
    cases h
    exact lv_bipush hexec hb hdg rfl (k _ hL)
  | sipush n =>
    cases hlen rfl
    cases h
    exact lv_sipush hexec hb hdg rfl (k _ hL)
  | iload_n j =>
    cases hlen rfl
    obtain ⟨x, hx, rfl, rfl, rfl⟩ := mm_iload_ok h
    exact lv_iload_n hexec hb hdg rfl (hL.2.2.2 _ _ hx).2 (k _ hL)
  | iload j =>
    cases hlen rfl
    obtain ⟨x, hx, rfl, rfl, rfl⟩ := mm_iload_ok h
    exact lv_iload hexec hb hdg (hL.2.2.2 _ _ hx).2 (k _ hL)
  | aload_n j =>
    cases hlen rfl
    obtain ⟨x, hx, rfl | ⟨a, rfl⟩, rfl, rfl, rfl⟩ := mm_aload_ok h
    · exact lv_aload_nN hexec hb hdg rfl (hL.2.2.2 _ _ hx).2 (k _ hL)
    · exact lv_aload_n hexec hb hdg rfl (hL.2.2.2 _ _ hx).2 (k _ hL)
  | aload j =>
    cases hlen rfl
    obtain ⟨x, hx, rfl | ⟨a, rfl⟩, rfl, rfl, rfl⟩ := mm_aload_ok h
    · exact lv_aloadN hexec hb hdg (hL.2.2.2 _ _ hx).2 (k _ hL)
    · exact lv_aload hexec hb hdg (hL.2.2.2 _ _ hx).2 (k _ hL)
  | istore_n j =>
    cases hlen rfl
    obtain ⟨x, r, rfl, hj, rfl, rfl, rfl⟩ := mm_istore_ok h
    exact lv_istore_n hexec hb hdg rfl (mm_lv_has hL) (by rw [← hL.1]; exact hj) rfl (fun real' h' => k _ (mm_lv_set hL rfl h'))
  | istore j =>
    cases hlen rfl
    obtain ⟨x, r, rfl, hj, rfl, rfl, rfl⟩ := mm_istore_ok h
    exact lv_istore hexec hb hdg (mm_lv_has hL) (by rw [← hL.1]; exact hj) rfl (fun real' h' => k _ (mm_lv_set hL rfl h'))
  | astore_n j =>
    cases hlen rfl
    obtain ⟨x, r, rfl, rfl | ⟨a, rfl⟩, hj, rfl, rfl, rfl⟩ := mm_astore_ok h
    · exact lv_astore_nN hexec hb hdg rfl (mm_lv_has hL) (by rw [← hL.1]; exact hj) rfl (fun real' h' => k _ (mm_lv_set hL rfl h'))
    · exact lv_astore_n hexec hb hdg rfl (mm_lv_has hL) (by rw [← hL.1]; exact hj) rfl (fun real' h' => k _ (mm_lv_set hL rfl h'))
  | astore j =>
    cases hlen rfl
    obtain ⟨x, r, rfl, rfl | ⟨a, rfl⟩, hj, rfl, rfl, rfl⟩ := mm_astore_ok h
    · exact lv_astoreN hexec hb hdg (mm_lv_has hL) (by rw [← hL.1]; exact hj) rfl (fun real' h' => k _ (mm_lv_set hL rfl h'))
    · exact lv_astore hexec hb hdg (mm_lv_has hL) (by rw [← hL.1]; exact hj) rfl (fun real' h' => k _ (mm_lv_set hL rfl h'))
  | iinc j n =>
    cases hlen rfl
    change mm_iinc j (pc + 3) n ls st = _ at h
    unfold mm_iinc at h
    split at h
    · rename_i x hx
      cases h
      have hm : (j, mm_rv ρ (.int x)) ∈ mm_lv ρ ls := mm_lv_mem.mpr ⟨_, hx, rfl⟩
      obtain ⟨q, hq⟩ := List.getElem?_of_mem hm
      exact lv_iinc hexec hb hdg (mm_lv_has hL) hq rfl (by rw [← hL.1]; exact (List.getElem?_eq_some_iff.mp hx).1) rfl (fun real' h' => k _ (mm_lv_set (v := .int _) hL rfl h'))
    · cases h
  | iadd => cases hlen rfl; obtain ⟨x, y, r, rfl, rfl, rfl, rfl⟩ := mm_bin_ok h; exact lv_iadd hexec hb hdg (k _ hL)
  | isub => cases hlen rfl; obtain ⟨x, y, r, rfl, rfl, rfl, rfl⟩ := mm_bin_ok h; exact lv_isub hexec hb hdg (k _ hL)
  | imul => cases hlen rfl; obtain ⟨x, y, r, rfl, rfl, rfl, rfl⟩ := mm_bin_ok h; exact lv_imul hexec hb hdg (k _ hL)
  | iand => cases hlen rfl; obtain ⟨x, y, r, rfl, rfl, rfl, rfl⟩ := mm_bin_ok h; exact lv_iand hexec hb hdg (k _ hL)
  | ior => cases hlen rfl; obtain ⟨x, y, r, rfl, rfl, rfl, rfl⟩ := mm_bin_ok h; exact lv_ior hexec hb hdg (k _ hL)
  | ixor => cases hlen rfl; obtain ⟨x, y, r, rfl, rfl, rfl, rfl⟩ := mm_bin_ok h; exact lv_ixor hexec hb hdg (k _ hL)
  | ishl => cases hlen rfl; obtain ⟨x, y, r, rfl, rfl, rfl, rfl⟩ := mm_bin_ok h; exact lv_ishl hexec hb hdg (k _ hL)
  | ishr => cases hlen rfl; obtain ⟨x, y, r, rfl, rfl, rfl, rfl⟩ := mm_bin_ok h; exact lv_ishr hexec hb hdg (k _ hL)
  | iushr => cases hlen rfl; obtain ⟨x, y, r, rfl, rfl, rfl, rfl⟩ := mm_bin_ok h; exact lv_iushr hexec hb hdg rfl (k _ hL)
  | idiv => cases hlen rfl; obtain ⟨x, y, r, rfl, hy, rfl, rfl, rfl⟩ := mm_div_ok h; exact lv_idiv hexec hb hdg hy (k _ hL)
  | irem => cases hlen rfl; obtain ⟨x, y, r, rfl, hy, rfl, rfl, rfl⟩ := mm_div_ok h; exact lv_irem hexec hb hdg hy (k _ hL)
  | ineg => cases hlen rfl; obtain ⟨x, r, rfl, rfl, rfl, rfl⟩ := mm_un_ok h; exact lv_ineg hexec hb hdg (k _ hL)
  | i2b => cases hlen rfl; obtain ⟨x, r, rfl, rfl, rfl, rfl⟩ := mm_un_ok h; exact lv_i2b hexec hb hdg rfl (k _ hL)
  | i2l =>
    cases hlen rfl
    change mm_i2l (pc + 1) ls st = _ at h
    unfold mm_i2l at h
    split at h
    · cases h; exact lv_i2l hexec hb hdg rfl (k _ hL)
    · cases h
  | lshl =>
    cases hlen rfl
    change mm_lshl (pc + 1) ls st = _ at h
    unfold mm_lshl at h
    split at h
    · cases h; exact lv_lshl hexec hb hdg rfl (k _ hL)
    · cases h
  | lcmp =>
    cases hlen rfl
    change mm_lcmp (pc + 1) ls st = _ at h
    unfold mm_lcmp at h
    split at h
    · cases h; exact W.lcmp hexec hb hdg (k _ hL)
    · cases h
  | dup =>
    cases hlen rfl
    change mm_dup (pc + 1) ls st = _ at h
    unfold mm_dup at h
    split at h
    · split at h
      · rename_i hc; cases h; exact lv_dup hexec hb hdg ((mm_rv_cat ρ _).trans hc) (k _ hL)
      · cases h
    · cases h
  | dup_x1 =>
    cases hlen rfl
    change mm_dupx1 (pc + 1) ls st = _ at h
    unfold mm_dupx1 at h
    split at h
    · split at h
      · rename_i hc; cases h; exact lv_dup_x1 hexec hb hdg ((mm_rv_cat ρ _).trans hc.1) ((mm_rv_cat ρ _).trans hc.2) (k _ hL)
      · cases h
    · cases h
  | dup_x2 =>
    cases hlen rfl
    change mm_dupx2 (pc + 1) ls st = _ at h
    unfold mm_dupx2 at h
    split at h
    · split at h
      · rename_i hc; cases h; exact lv_dup_x2 hexec hb hdg ((mm_rv_cat ρ _).trans hc.1) ((mm_rv_cat ρ _).trans hc.2.1) ((mm_rv_cat ρ _).trans hc.2.2) (k _ hL)
      · cases h
    · cases h
  | dup2 =>
    cases hlen rfl
    change mm_dup2 (pc + 1) ls st = _ at h
    unfold mm_dup2 at h
    split at h
    · split at h
      · rename_i hc; cases h; exact lv_dup2_11 hexec hb hdg ((mm_rv_cat ρ _).trans hc.1) ((mm_rv_cat ρ _).trans hc.2) (k _ hL)
      · cases h
    · cases h
  | pop =>
    cases hlen rfl
    change mm_pop (pc + 1) ls st = _ at h
    unfold mm_pop at h
    split at h
    · split at h
      · rename_i hc; cases h; exact lv_pop hexec hb hdg ((mm_rv_cat ρ _).trans hc) (k _ hL)
      · cases h
    · cases h
  | ifCond cnd off =>
    cases hlen rfl
    change mm_if1 cnd pc off ls st = _ at h
    unfold mm_if1 at h
    split at h
    · obtain ⟨tgt, ht, rfl, rfl, hp⟩ := mm_br_ok h
      exact mm_if1_ok hexec hb hdg ht hp (k _ hL)
    · cases h
  | if_icmp cnd off =>
    cases hlen rfl
    change mm_if2 cnd pc off ls st = _ at h
    unfold mm_if2 at h
    split at h
    · obtain ⟨tgt, ht, rfl, rfl, hp⟩ := mm_br_ok h
      exact mm_if2_ok hexec hb hdg ht hp (k _ hL)
    · cases h
  | goto off =>
    cases hlen rfl
    obtain ⟨ht, rfl, rfl⟩ := mm_jump_ok h
    exact lv_goto hexec hb hdg ht (k _ hL)
  | tableswitch dflt lo hi offs =>
    change mm_tsw dflt lo hi offs pc ls st = _ at h
    unfold mm_tsw at h
    split at h
    · rename_i x r
      split at h
      · rename_i hx
        obtain ⟨ht, rfl, rfl⟩ := mm_jump_ok h
        exact lv_tableOut hexec hb hdg hx ht (k _ hL)
      · rename_i hx
        split at h
        · rename_i off ho
          obtain ⟨ht, rfl, rfl⟩ := mm_jump_ok h
          exact lv_tableIn hexec hb hdg (fun g => hx (Or.inl g)) (fun g => hx (Or.inr g)) ho ht (k _ hL)
        · cases h
    · cases h
  | lookupswitch dflt ps =>
    change mm_lsw dflt ps pc ls st = _ at h
    unfold mm_lsw at h
    split at h
    · rename_i x r
      split at h
      · rename_i hx
        obtain ⟨ht, rfl, rfl⟩ := mm_jump_ok h
        exact lv_lookup hexec hb hdg hx rfl ht (k _ hL)
      · cases h
    · cases h
  | _ => cases h
end MP2
