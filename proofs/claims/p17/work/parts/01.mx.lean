/-! contracts that may throw: MetX; the call of one; the search for a handler, cold; leaving by an exception -/
section MX1
variable {p : Program} {l : Launch} {e : Env} {R : Room} {s : State} {m : MethodId} {args : Array Value} {below : List Frame} {meth : Method} {c : Code} {H : Heap} {locs : List Loc} {cells slots : Nat} {Q : State → Prop}
theorem mx_mono {Q' : State → Prop} {g : JFrame} (h : ∀ t, Q t → Q' t) (k : W p l e R s m args below meth c H locs cells slots Q g) : W p l e R s m args below meth c H locs cells slots Q' g := by
  intro T hT X
  obtain ⟨t, a, b⟩ := k T hT X
  exact ⟨t, a, h t b⟩
def mx_End (st t : State) (L : List Loc) (k n : Nat) : Prop := st.WarmedH t.vm ∧ st.sameButNew ({ t with vm := st.vm } : State) L k n
def mx_Q (below : List Frame) (Qc : Array Value → State → Outcome → State → Prop) (a : Array Value) (s : State) (mc ms : Nat) (free : Addr → Prop) : State → Prop := fun t =>
  ∃ o, t.status = .running ∧ Ended t below o ∧ Qc a s o t ∧ ∃ L, mx_End s t L mc ms ∧ ∀ q ∈ L, free q.base
theorem mx_ofMQ {Qc : Array Value → State → Outcome → State → Prop} {a : Array Value} {mc ms : Nat} {free : Addr → Prop} (t : State) (h : MQ below Qc a s mc ms free t) : mx_Q below Qc a s mc ms free t := by
  obtain ⟨o, h1, h2, h3, L, ⟨-, h4, h5⟩, h6⟩ := h
  exact ⟨o, h1, h2, h3, L, ⟨h4, h5⟩, h6⟩
def MetX (l : Launch) (y : MethodName) (ws : List Cond) (rm : Room) (Pc : Array Value → State → Prop) (Qc : Array Value → State → Outcome → State → Prop) (mc ms : Nat) (free : Addr → Prop) : Prop :=
  MetFree l y (headSpec ws rm) Pc (fun _ _ _ _ _ => True) (fun a st o t => Qc a st o t ∧ ∃ L, mx_End st t L mc ms ∧ ∀ q ∈ L, free q.base)
/-- the code of a method, with its table of handlers -/
def mx_Code (y : MethodName) (cc : ByteArray) (maxL : Nat) (ret : Option FieldType) (hh : List (Nat × Nat × Nat × Nat)) (s : State) : Prop :=
  ∃ m meth c, s.methodNamed? y = some m ∧ s.vm.method? m = some meth ∧ meth.code = some c ∧ c.code = cc ∧ c.maxLocals = maxL ∧
      c.exceptionTable.toList.map (fun h => (h.startPc, h.endPc, h.handlerPc, h.catchType)) = hh ∧ meth.sig.returnType = ret ∧ meth.locks = false ∧ parseMethodDescriptor y.desc = some meth.sig
theorem mx_code {y : MethodName} {cc : ByteArray} {maxL : Nat} {ret : Option FieldType} (h : (Cond.code y cc maxL ret).before args s = true) : mx_Code y cc maxL ret [] s := by
  obtain ⟨m, hn⟩ := Cond.code_named h
  obtain ⟨meth, c, h1, h2, h3, h4, h5, h6, h7, h8⟩ := Cond.code_spec hn h
  refine ⟨m, meth, c, hn, h1, h2, h3, h4, ?_, h5, h6, h8⟩
  have h0 : c.exceptionTable.size = 0 := by simpa [Array.isEmpty] using h7
  have h1 : c.exceptionTable.toList = [] := List.eq_nil_of_length_eq_zero (by simpa using h0)
  rw [h1]; rfl
theorem mx_codeW {y : MethodName} {cc : ByteArray} {maxL : Nat} {ret : Option FieldType} {hh : List (Nat × Nat × Nat × Nat)} (h : (Cond.codeWith y cc maxL ret hh).before args s = true) : mx_Code y cc maxL ret hh s := Cond.codeWith_spec h
theorem MetX_ofW {y : MethodName} {ws : List Cond} {rm : Room} {Pc : Array Value → State → Prop} {Qc : Array Value → State → Outcome → State → Prop} {mc ms : Nat} {free : Addr → Prop} {cc : ByteArray} {maxL : Nat} {ret : Option FieldType} {hh : List (Nat × Nat × Nat × Nat)}
    (hy : plainName y.cls = true) (hw : ∀ (args : Array Value) (s : State), (allAtoms ws).before args s = true → mx_Code y cc maxL ret hh s)
    (body : ∀ p e s m args below meth c s₁, BodyLoose p l y (headSpec ws rm) cc maxL ret e s m args below meth c s₁ → c.maxLocals = maxL → c.exceptionTable.toList.map (fun h => (h.startPc, h.endPc, h.handlerPc, h.catchType)) = hh → Pc args s →
      W p l e rm s m args below meth c s.heap [] 0 0 (mx_Q below Qc args s mc ms free) (entryFrame m args maxL)) : MetX l y ws rm Pc Qc mc ms free := by
  refine MetFree.of_bodyS (code := cc) (maxLocals := maxL) (ret := ret) hy ?_ ?_
  · intro args s m h hn
    obtain ⟨m', meth, c, h0, h1, h2, h3, h4, -, h5, h6, -⟩ := hw args s h
    cases hn.symm.trans h0
    exact ⟨meth, c, h1, h2, h3, h4, h5, h6⟩
  · intro p e s m args below meth c s₁ B hml hP _
    have hh0 : s₁.heap = s.heap := by rw [B.state]; rfl
    have X := Stand.of_body B
    obtain ⟨m', meth', c', h0, h1, h2, h3, h4, h9, h5, h6, -⟩ := hw args s B.pre
    cases B.named.symm.trans h0
    cases B.method.symm.trans h1
    cases X.code.symm.trans h2
    obtain ⟨t, a1, o, b1, b2, b3, b4⟩ := body p e s m args below meth c s₁ B hml h9 hP s₁ hh0 X
    exact ⟨t, o, a1, b1, b2, b3, b4⟩
end MX1
section MX2
variable {l : Launch} {R : Room} {p : Program} {e : Env} {below : List Frame} {s : State} {sargs : Array Value} {y : MethodName} {len W : Nat}
/-- the state behind a callee -/
abbrev mx_U (U t : State) : State := ({ U with heap := t.heap, slotsUsed := t.slotsUsed } : State).setVm t.vm
set_option maxHeartbeats 1000000 in
theorem mx_call {ws : List Cond} {rm : Room} {Pc : Array Value → State → Prop} {Qc : Array Value → State → Outcome → State → Prop} {mc ms : Nat} {free : Addr → Prop} {maxL : Nat}
    (hM : MetX l y ws rm Pc Qc mc ms free) {m : MethodId} {meth : Method} {c : Code} {U : State} {Ls : List Loc} {c0 s0 : Nat} (X : Stand p l e R s m sargs below meth c U Ls c0 s0)
    {g : JFrame} {ig : Instr} {mk : MethodId} {a : Array Value} (hg : g.method = m) (hsize : g.locals.size = c.maxLocals) (hdg : decode c.code g.pc = .ok (ig, len)) (hW : 2 * g.monitorRoom + (g.stack.map fun v => v.category).sum ≤ W)
    (hn : U.methodNamed? y = some mk) (hcode : ∃ methY cY, U.vm.method? mk = some methY ∧ methY.code = some cY ∧ cY.maxLocals = maxL) (hini : (Cond.initialized y.cls).before a U = true) (hpre : ∀ w ∈ ws, w.before a U = true)
    (hframes : rm.frames + 1 ≤ R.frames) (hlocals : W + (maxL + 11) + rm.locals ≤ R.locals) (hc : c0 + rm.cells ≤ R.cells) (hs : s0 + rm.slots ≤ R.slots) (hP : Pc a (U.calling g mk a)) :
    ∃ (o : Outcome) (t : State) (L : List Loc), Qc a (U.calling g mk a) o t ∧ (∀ q ∈ L, free q.base) ∧ U.WarmedH t.vm ∧ Stand p l e R s m sargs below meth c (mx_U U t) (Ls ++ L) (c0 + mc) (s0 + ms) ∧
      (∀ v, o = .returned v → Steps p.tables e below (doInvoke e (U.setTop g) [] mk a).1 ((mx_U U t).setTop { g with pc := g.pc + len, stack := v.toList ++ g.stack })) ∧
      (∀ x, o = .threw x → Steps p.tables e below (doInvoke e (U.setTop g) [] mk a).1 (((mx_U U t).setTop g).pushFrame (.throwing x))) := by
  obtain ⟨methY, cY, hmY, hcY, hlY⟩ := hcode
  obtain ⟨kY, hkY, -⟩ := className_of_methodNamed hn
  have hinitY : kY.init = .initialized := Cond.initialized_spec (findClass_of_methodNamed hn) hkY hini
  have h : At U g.method c below := by rw [hg]; exact X.here
  have happ : (headSpec ws rm).appliesLoose y e.platform (U.calling g mk a) = true :=
    Spec.appliesLoose_calling (g := g) h hdg hn hkY hinitY
      (X.room_calling (g := g) (R' := rm) hsize hmY hcY hframes (by rw [hlY]; omega) hc hs) (atoms_intro hpre)
  obtain ⟨mid, hmid⟩ := h.above
  have hfr : (U.setTop g).frames = (.java g :: mid) ++ below := by rw [State.frames_setTop' g h.top, hmid]; rfl
  obtain ⟨o, s₂, hsteps, -, hend, hq⟩ := Steps.callFree hM p X.admits X.cas X.clock (acts := []) hfr happ hP trivial
  obtain ⟨hq', L, ⟨hW₂, e2, q2, q3, q4, q5, q6⟩, hL⟩ := hq
  rw [State.frames_setTop' g h.top] at hend
  have e3 : s₂ = ({ (U.calling g mk a).setFrames s₂.frames with heap := s₂.heap, slotsUsed := s₂.slotsUsed } : State).setVm s₂.vm := by
    have e2' : ({ s₂ with vm := (U.calling g mk a).vm } : State) = ({ (U.calling g mk a).setFrames s₂.frames with heap := s₂.heap, slotsUsed := s₂.slotsUsed } : State) := e2
    have : s₂ = ({ s₂ with vm := (U.calling g mk a).vm } : State).setVm s₂.vm := rfl
    rw [e2'] at this
    exact this
  have hW' : U.WarmedH s₂.vm := hW₂
  obtain ⟨g₀, hg0⟩ := Option.isSome_iff_exists.mp h.top
  obtain ⟨r, hr⟩ := State.topJava?_eq_some.mp hg0
  have hr' : (({ U with heap := s₂.heap, slotsUsed := s₂.slotsUsed } : State).setVm s₂.vm).frames = .java g₀ :: r := hr
  have hsame : U.sameButNew ({ U with heap := s₂.heap, slotsUsed := s₂.slotsUsed } : State) L mc ms := by
    refine ⟨?_, q2, q3, q4, q5, q6⟩
    obtain ⟨t, ht, -⟩ := State.frames_cons hr
    show ({ U with heap := s₂.heap, slotsUsed := s₂.slotsUsed } : State) = { U.setFrames U.frames with heap := s₂.heap, slotsUsed := s₂.slotsUsed }
    rw [State.setFrames_self ht]
  refine ⟨o, s₂, L, hq', hL, hW', ⟨X.admits, X.cas, X.clock, X.frames, X.room, X.hears, X.method, X.code, (X.here.setHeapUsed s₂.heap s₂.slotsUsed).setVm hW'.alike, X.tail, State.WarmedH.trans X.warmed hW', X.limits, X.bytes, X.same.trans (hsame.setVm s.vm)⟩, ?_, ?_⟩
  · rintro v rfl
    obtain ⟨c₂, i₂, len₂, hc₂, hd₂, hf₂⟩ := hend
    have hcc : c₂ = c := by
      have h1 : s₂.code? g.method = U.code? g.method := by
        rw [State.code?_eq, State.code?_eq, hW'.alike.method?]
      exact Option.some.inj (hc₂.symm.trans (h1.trans h.code))
    subst hcc
    have hlen : len₂ = len := by rw [hdg] at hd₂; cases hd₂; rfl
    subst hlen
    have hs₂ : s₂ = (mx_U U s₂).setTop { g with pc := g.pc + len₂, stack := v.toList ++ g.stack } := by
      refine e3.trans ?_
      rw [hf₂, State.calling_eq h.top, State.setFrames_setFrames, State.setTop_of_frames _ hr', hr]
      rfl
    rw [← hs₂]
    exact hsteps
  · rintro x rfl
    have hf₂ : s₂.frames = .throwing x :: .java g :: U.frames.tail := hend
    have hs₂ : s₂ = ((mx_U U s₂).setTop g).pushFrame (.throwing x) := by
      refine e3.trans ?_
      rw [hf₂, State.calling_eq h.top, State.setFrames_setFrames, State.pushFrame, State.setTop_of_frames _ hr', State.frames_setFrames _ (State.cur_lt_of_frames hr'), State.setFrames_setFrames, hr]
      rfl
    rw [← hs₂]
    exact hsteps
end MX2
section MX3
/-- one row of a handler's table whose catch type is resolved there, cold or warm -/
theorem mx_go1 {E : CtlPost} {e : Env} {d : Bool} {acts : List Action} {s : State} {f : JFrame} {a : Addr} {Q : Handler → Pre} {x : ExceptionTableEntry} {t : List ExceptionTableEntry} {cx : ClassId} {cell : Cell} {vm' : Vm}
    (hx : covers x f.pc = true) (h0 : x.catchType ≠ 0) (hg : (Jvm.resolveClass f.method.cls x.catchType).Gives e.toSetting s.vm (.ok cx) vm') (hsz : vm'.classes.size ≤ s.vm.classes.size)
    (hcell : s.heap[a]? = some cell) (hobj : ∀ k, cell.vm ≠ .statics k) (hk : ∃ k, vm'.classes[cell.cls]? = some k) (hc : ∃ k, vm'.classes[cx]? = some k) :
    wp (findHandler.go f a (x :: t)) Q E e d acts s ↔
      if vm'.assignable cell.cls cx = true then Q (.found x.handlerPc) d acts (s.setVm vm') else wp (findHandler.go f a t) Q E e d acts (s.setVm vm') := by
  simp only [covers] at hx
  obtain ⟨ha, ht⟩ := hg.op (op := VmOp.resolveClass f.method.cls x.catchType) rfl
  cases hfit : vm'.assignable cell.cls cx <;>
    simp [findHandler.go, hx, h0, ha, ht, hsz, hcell, hobj, hk, hc, hfit, VmOp.dirties, VmOp.acts]
/-- the row that a table gives: 'ok' says which catch types take the exception -/
def mx_find (pc : Nat) (ok : Nat → Bool) : List ExceptionTableEntry → Option Nat
  | [] => none
  | x :: t => if covers x pc = true then (if ok x.catchType = true then some x.handlerPc else mx_find pc ok t) else mx_find pc ok t
def mx_H (r : Option Nat) : Handler := match r with
  | some pc => .found pc
  | none => .none
theorem mx_go {e : Env} {s0 : State} {f : JFrame} {a : Addr} {cell : Cell} {ok : Nat → Bool} (hobj : ∀ k, cell.vm ≠ .statics k) (hkc : ∃ k, s0.vm.classes[cell.cls]? = some k) :
    ∀ (t : List ExceptionTableEntry), (∀ x ∈ t, covers x f.pc = true → x.catchType ≠ 0 ∧ ∃ cx, s0.vm.ClassLinks e.platform f.method.cls x.catchType cx ∧ s0.vm.assignable cell.cls cx = ok x.catchType) →
    ∀ s : State, s0.WarmedH s.vm → s.heap[a]? = some cell → ∃ vm', s0.WarmedH vm' ∧
      ∀ (Q : Handler → Pre) (E : CtlPost) (d : Bool) (acts : List Action), wp (findHandler.go f a t) Q E e d acts s ↔ Q (mx_H (mx_find f.pc ok t)) d acts (s.setVm vm') := by
  intro t
  induction t with
  | nil => exact fun _ s hW _ => ⟨s.vm, hW, fun Q E d acts => W.findHandler_go_nil⟩
  | cons x t ih =>
    intro hall s hW hcell
    have iht := ih (fun y hy => hall y (List.mem_cons_of_mem _ hy))
    by_cases hx : covers x f.pc = true
    · obtain ⟨h0, cx, hl, has⟩ := hall x List.mem_cons_self hx
      obtain ⟨hg, hwarm, -⟩ := State.classEntry (e := e) hW hl
      have hsz : (s.vm.noted f.method.cls x.catchType (.cls cx)).classes.size ≤ s.vm.classes.size := by simp [Vm.noted]
      generalize s.vm.noted f.method.cls x.catchType (.cls cx) = vm₁ at hg hwarm hsz
      have hkc' : ∃ k, vm₁.classes[cell.cls]? = some k := by
        obtain ⟨k, hk⟩ := hkc
        obtain ⟨k', hk', -⟩ := hwarm.alike.2.2 _ _ hk
        exact ⟨k', hk'⟩
      have hcx : ∃ k, vm₁.classes[cx]? = some k := by
        obtain ⟨dk, cf, name, ck, h1, h2, h3, h4, h5, h6, -⟩ := hl.here
        obtain ⟨k', hk', -⟩ := hwarm.alike.2.2 _ _ h6
        exact ⟨k', hk'⟩
      have has' : vm₁.assignable cell.cls cx = ok x.catchType := by rw [← has]; exact hwarm.alike.assignable _ _
      by_cases hok : ok x.catchType = true
      · refine ⟨vm₁, hwarm, fun Q E d acts => ?_⟩
        rw [mx_go1 hx h0 hg hsz hcell hobj hkc' hcx, if_pos (by rw [has']; exact hok)]
        simp only [mx_find, hx, hok, if_true, mx_H]
      · obtain ⟨vm₂, hw2, h2⟩ := iht (s.setVm vm₁) hwarm hcell
        refine ⟨vm₂, hw2, fun Q E d acts => ?_⟩
        rw [mx_go1 hx h0 hg hsz hcell hobj hkc' hcx, if_neg (by rw [has']; exact hok), h2]
        simp only [mx_find, hx, hok, if_true, if_false]
        exact Iff.rfl
    · obtain ⟨vm₂, hw2, h2⟩ := iht s hW hcell
      refine ⟨vm₂, hw2, fun Q E d acts => ?_⟩
      rw [W.findHandler_go_skip (by simpa using hx), h2]
      simp only [mx_find, hx, if_false]
      exact Iff.rfl
theorem mx_stepCatch {e : Env} {s : State} {a : Addr} {f : JFrame} {r : List Frame} {pc : Nat} {vm' : Vm} (hfind : ∀ (Q : Handler → Pre) (E : CtlPost) (d : Bool) (acts : List Action), wp (findHandler f a) Q E e d acts s ↔ Q (.found pc) d acts (s.setVm vm')) :
    (stepThrowing e s a (.java f :: r)).Is ((s.setVm vm').setFrames (.java { f with pc := pc, stack := [.ref a] } :: r)) [] := by
  simp only [stepThrowing, searchFrame, vmDo]
  generalize hr : Sem.go _ e false [] s = res
  obtain ⟨as, rfl, ha⟩ := Sem.eq_ok_of hr (a := Handler.found pc) (s' := s.setVm vm') (acts' := []) (by simp [hfind])
  exact ⟨rfl, ha⟩
theorem mx_stepLeave {e : Env} {s : State} {a : Addr} {f : JFrame} {r : List Frame} {meth : Method} {vm' : Vm}
    (hm : vm'.method? f.method = some meth) (hl : meth.locks = false) (hlocked : f.locked = none) (hentered : f.entered = []) (hfind : ∀ (Q : Handler → Pre) (E : CtlPost) (d : Bool) (acts : List Action), wp (findHandler f a) Q E e d acts s ↔ Q .none d acts (s.setVm vm')) :
    (stepThrowing e s a (.java f :: r)).Is ((s.setVm vm').setFrames (.throwing a :: r)) [] := by
  simp only [stepThrowing, searchFrame, vmDo]
  generalize hr : Sem.go _ e false [] s = res
  have hm' : (s.setVm vm').vm.method? f.method = some meth := hm
  obtain ⟨as, rfl, ha⟩ := Sem.eq_ok_of hr (a := Handler.none) (s' := s.setVm vm') (acts' := [])
    (by cases hp : e.platform.frameOwnsMonitors <;> simp [hfind, hm, hl, hlocked, hentered, hp, leaveIfLocked])
  exact ⟨rfl, ha⟩
variable {tb : Tables} {e : Env} {s target : State} {g : JFrame} {c : Code} {below : List Frame} {a : Addr}
theorem mx_caught (h : At s g.method c below) {pc : Nat} {vm' : Vm} (hfind : ∀ (Q : Handler → Pre) (E : CtlPost) (d : Bool) (acts : List Action), wp (findHandler g a) Q E e d acts ((s.setTop g).pushFrame (.throwing a)) ↔ Q (.found pc) d acts (((s.setTop g).pushFrame (.throwing a)).setVm vm'))
    (hrest : Steps tb e below ((s.setVm vm').setTop { g with pc := pc, stack := [.ref a] }) target) :
    Steps tb e below ((s.setTop g).pushFrame (.throwing a)) target := by
  obtain ⟨hgo, hw⟩ := h.throwing a
  refine Steps.head hgo hw ?_
  rw [stepThread_throwing (frames_entered h.top _), (mx_stepCatch (s := (s.setTop g).pushFrame (.throwing a)) hfind).1]
  obtain ⟨g₀, hg⟩ := Option.isSome_iff_exists.mp h.top
  obtain ⟨r, hr⟩ := State.topJava?_eq_some.mp hg
  have hr' : (s.setVm vm').frames = .java g₀ :: r := hr
  rw [State.setTop_of_frames _ hr'] at hrest
  have e1 : (((s.setTop g).pushFrame (.throwing a)).setVm vm').setFrames (.java { g with pc := pc, stack := [.ref a] } :: s.frames.tail) = (s.setVm vm').setFrames (.java { g with pc := pc, stack := [.ref a] } :: r) := by
    rw [State.pushFrame, State.setTop_of_frames _ hr, hr]
    show (((s.setFrames _).setFrames _).setFrames _).setVm vm' = (s.setFrames _).setVm vm'
    rw [State.setFrames_setFrames, State.setFrames_setFrames]
    rfl
  rw [e1]
  exact hrest
theorem mx_thrownOut (h : At s g.method c below) {meth : Method} {vm' : Vm} (hm : vm'.method? g.method = some meth) (hl : meth.locks = false)
    (hlocked : g.locked = none) (hentered : g.entered = []) (hfind : ∀ (Q : Handler → Pre) (E : CtlPost) (d : Bool) (acts : List Action), wp (findHandler g a) Q E e d acts ((s.setTop g).pushFrame (.throwing a)) ↔ Q .none d acts (((s.setTop g).pushFrame (.throwing a)).setVm vm'))
    (hrest : Steps tb e below ((s.setVm vm').setFrames (.throwing a :: s.frames.tail)) target) :
    Steps tb e below ((s.setTop g).pushFrame (.throwing a)) target := by
  obtain ⟨hgo, hw⟩ := h.throwing a
  refine Steps.head hgo hw ?_
  rw [stepThread_throwing (frames_entered h.top _),
    (mx_stepLeave (s := (s.setTop g).pushFrame (.throwing a)) (meth := meth) hm hl hlocked hentered hfind).1]
  obtain ⟨g₀, hg⟩ := Option.isSome_iff_exists.mp h.top
  obtain ⟨r, hr⟩ := State.topJava?_eq_some.mp hg
  have e1 : (((s.setTop g).pushFrame (.throwing a)).setVm vm').setFrames (.throwing a :: s.frames.tail) = (s.setVm vm').setFrames (.throwing a :: s.frames.tail) := by
    rw [State.pushFrame, State.setTop_of_frames _ hr]
    show (((s.setFrames _).setFrames _).setFrames _).setVm vm' = (s.setFrames _).setVm vm'
    rw [State.setFrames_setFrames, State.setFrames_setFrames]
  rw [e1]
  exact hrest
end MX3
section MX4
variable {p : Program} {l : Launch} {e : Env} {R : Room} {s : State} {m : MethodId} {args : Array Value} {below : List Frame} {meth : Method} {c : Code} {T : State} {locs : List Loc} {cells slots : Nat}
/-- the walk as one that begins here: the heap of now, what is left of the room -/
theorem mx_rebase (X : Stand p l e R s m args below meth c T locs cells slots) (h1 : cells ≤ R.cells) (h2 : slots ≤ R.slots) :
    Stand p l e { R with cells := R.cells - cells, slots := R.slots - slots } ({ s with heap := T.heap, slotsUsed := T.slotsUsed } : State) m args below meth c T [] 0 0 := by
  refine ⟨X.admits, X.cas, X.clock, X.frames, ?_, X.hears, X.method, X.code, X.here, X.tail, X.warmed, X.limits, X.bytes, ?_⟩
  · have hr := X.room
    have hs := X.heapSize
    have hu := X.used
    have hb := X.book
    simp only [State.hasRoom, Bool.and_eq_true, decide_eq_true_eq] at hr ⊢
    refine ⟨⟨⟨hr.1.1.1, ?_⟩, ?_⟩, hb⟩
    · have h3 := hr.1.1.2
      show T.heap.size + (R.cells - cells) ≤ _
      omega
    · have h3 := hr.1.2
      show T.slotsUsed + (R.slots - slots) ≤ _
      omega
  · refine ⟨?_, Nat.le_refl _, Nat.le_refl _, ?_, ?_, fun a c h => ⟨c, h, rfl, rfl, fun i _ => rfl⟩⟩
    · exact X.same.1
    · show T.slotsUsed = T.slotsUsed + ((T.heap.toList.drop T.heap.size).map (·.slots.size)).sum
      rw [List.drop_of_length_le (by simp)]
      rfl
    · show ((T.heap.toList.drop T.heap.size).map (·.slots.size)).sum ≤ 0
      rw [List.drop_of_length_le (by simp)]
      exact Nat.le_refl _
theorem mx_back {U : State} {k n : Nat} (X : Stand p l e R s m args below meth c T locs cells slots) (h : ({ s with heap := T.heap, slotsUsed := T.slotsUsed } : State).sameButNew ({ U with vm := s.vm } : State) [] k n) :
    s.sameButNew ({ U with vm := s.vm } : State) locs (cells + k) (slots + n) := by
  have h1 : (T.setVm s.vm).sameButNew ({ U with vm := s.vm } : State) [] k n := by
    obtain ⟨e1, h2⟩ := h
    refine ⟨?_, h2⟩
    have e2 := X.same.1
    have key := State.setFrames_setFrames s (T.setVm s.vm).frames ({ U with vm := s.vm } : State).frames
    rw [e2]
    refine e1.trans ?_
    show ({ s.setFrames ({ U with vm := s.vm } : State).frames with heap := U.heap, slotsUsed := U.slotsUsed } : State) = ({ (s.setFrames (T.setVm s.vm).frames).setFrames ({ U with vm := s.vm } : State).frames with heap := U.heap, slotsUsed := U.slotsUsed } : State)
    rw [key]
  have h3 := X.same.trans h1
  rw [List.append_nil] at h3
  exact h3
end MX4
section MX5
variable {p : Program} {l : Launch} {e : Env} {R : Room} {s : State} {m : MethodId} {args : Array Value} {below : List Frame} {meth : Method} {c : Code} {H : Heap} {locs : List Loc} {cells slots : Nat} {Q : State → Prop}
set_option maxHeartbeats 1000000 in
theorem mx_wcall {y : MethodName} {ws : List Cond} {rm : Room} {Pc : Array Value → State → Prop} {Qc : Array Value → State → Outcome → State → Prop} {mc ms maxL pc : Nat} {free : Addr → Prop} {ls : Array Slot} {st0 rest : List Value} {mk : MethodId} {a : Array Value} {ig : Instr} {cY : ByteArray} {ret : Option FieldType} {hh : List (Nat × Nat × Nat × Nat)}
    (hM : MetX l y ws rm Pc Qc mc ms free)
    (hstep : ∀ T : State, T.heap = H → Stand p l e R s m args below meth c T locs cells slots → ∃ vm', Stand p l e R s m args below meth c (T.setVm vm') locs cells slots ∧ ∀ target, (∀ acts, Steps p.tables e below (doInvoke e ((T.setVm vm').setTop (F0 m pc ls rest)) acts mk a).1 target) → Steps p.tables e below (T.setTop (F0 m pc ls st0)) target)
    (hn : s.methodNamed? y = some mk) (hcode : mx_Code y cY maxL ret hh s) (hws : ∀ w ∈ ws, ∀ (a' : Array Value) (U : State), s.WarmedH U.vm → w.before a' U = true) (hini : ∀ (a' : Array Value) (U : State), s.WarmedH U.vm → (Cond.initialized y.cls).before a' U = true)
    (hls : ls.size = c.maxLocals) (hdg : decode c.code pc = .ok (ig, 3)) (hW : (rest.map fun v => v.category).sum ≤ 8)
    (hfr : rm.frames + 1 ≤ R.frames) (hlo : 8 + (maxL + 11) + rm.locals ≤ R.locals) (hc : cells + rm.cells ≤ R.cells) (hs : slots + rm.slots ≤ R.slots)
    (hP : ∀ U : State, U.heap = H → s.WarmedH U.vm → Pc a U)
    (kret : ∀ (u t : State) (v : Option Value) (L : List Loc), u.heap = H → s.WarmedH t.vm → Qc a u (.returned v) t → (∀ q ∈ L, free q.base) → W p l e R s m args below meth c t.heap (locs ++ L) (cells + mc) (slots + ms) Q (F0 m (pc + 3) ls (v.toList ++ rest)))
    (kthr : ∀ (u t : State) (x : Addr) (L : List Loc), u.heap = H → s.WarmedH t.vm → Qc a u (.threw x) t → (∀ q ∈ L, free q.base) →
      ∃ (cell : Cell) (ok : Nat → Bool), t.heap[x]? = some cell ∧ (∀ k, cell.vm ≠ .statics k) ∧ (∃ k, s.vm.classes[cell.cls]? = some k) ∧
        (∀ z ∈ c.exceptionTable.toList, covers z pc = true → z.catchType ≠ 0 ∧ ∃ cx, s.vm.ClassLinks e.platform m.cls z.catchType cx ∧ s.vm.assignable cell.cls cx = ok z.catchType) ∧
        (∀ hpc, mx_find pc ok c.exceptionTable.toList = some hpc → W p l e R s m args below meth c t.heap (locs ++ L) (cells + mc) (slots + ms) Q (F0 m hpc ls [.ref x])) ∧
        (mx_find pc ok c.exceptionTable.toList = none → ∀ t' : State, t'.heap = t.heap → t'.status = .running → Ended t' below (.threw x) → s.WarmedH t'.vm → s.sameButNew ({ t' with vm := s.vm } : State) (locs ++ L) (cells + mc) (slots + ms) → Q t'))
    (hlocks : meth.locks = false) : W p l e R s m args below meth c H locs cells slots Q (F0 m pc ls st0) := by
  intro T hT X
  obtain ⟨vm₁, X₁, st⟩ := hstep T hT X
  have hcode' : ∃ methY cY', (T.setVm vm₁).vm.method? mk = some methY ∧ methY.code = some cY' ∧ cY'.maxLocals = maxL := by
    obtain ⟨m', methY, cY', h0, h1, h2, h3, h4, -⟩ := hcode
    cases hn.symm.trans h0
    exact ⟨methY, cY', by rw [X₁.warmed.alike.method?]; exact h1, h2, h4⟩
  obtain ⟨o, t, L, hq, hL, hWt, X', hR, hX⟩ := mx_call (len := 3) (W := 8) hM X₁ (g := F0 m pc ls rest) (ig := ig) (mk := mk) (a := a) rfl hls hdg (by simpa using hW) (X₁.named hn) hcode' (hini _ _ X₁.warmed) (fun w hw => hws w hw _ _ X₁.warmed) hfr hlo hc hs (hP _ hT X₁.warmed)
  have hsW : s.WarmedH t.vm := State.WarmedH.trans X₁.warmed hWt
  cases o with
  | returned v =>
    obtain ⟨t2, a1, b1⟩ := kret ((T.setVm vm₁).calling (F0 m pc ls rest) mk a) t v L hT hsW hq hL (mx_U (T.setVm vm₁) t) rfl X'
    exact ⟨t2, st t2 (fun acts => by rw [doInvoke_state]; exact (hR v rfl).trans a1), b1⟩
  | threw x =>
    obtain ⟨cell, ok, hcell, hobj, hk, hall, hcat, hlv⟩ := kthr ((T.setVm vm₁).calling (F0 m pc ls rest) mk a) t x L hT hsW hq hL
    obtain ⟨vm₂, hw2, h2⟩ := mx_go (e := e) (s0 := s) (f := F0 m pc ls rest) (a := x) (ok := ok) hobj hk c.exceptionTable.toList hall (((mx_U (T.setVm vm₁) t).setTop (F0 m pc ls rest)).pushFrame (.throwing x)) hsW hcell
    have hm' : (((mx_U (T.setVm vm₁) t).setTop (F0 m pc ls rest)).pushFrame (.throwing x)).vm.method? m = some meth := X'.method'
    have hfind : ∀ (Q : Handler → Pre) (E : CtlPost) (d : Bool) (acts : List Action), wp (findHandler (F0 m pc ls rest) x) Q E e d acts (((mx_U (T.setVm vm₁) t).setTop (F0 m pc ls rest)).pushFrame (.throwing x)) ↔ Q (mx_H (mx_find pc ok c.exceptionTable.toList)) d acts ((((mx_U (T.setVm vm₁) t).setTop (F0 m pc ls rest)).pushFrame (.throwing x)).setVm vm₂) :=
      fun Q E d acts => (W.findHandler_eq (meth := meth) (code := c) hm' X.code).trans (h2 Q E d acts)
    have hAt : At (mx_U (T.setVm vm₁) t) (F0 m pc ls rest).method c below := X'.here
    have X2 := X'.noted hw2
    cases hf : mx_find pc ok c.exceptionTable.toList with
    | some hpc =>
      rw [hf] at hfind
      obtain ⟨t2, a1, b1⟩ := hcat hpc hf ((mx_U (T.setVm vm₁) t).setVm vm₂) rfl X2
      exact ⟨t2, st t2 (fun acts => by rw [doInvoke_state]; exact (hX x rfl).trans (mx_caught hAt hfind a1)), b1⟩
    | none =>
      rw [hf] at hfind
      obtain ⟨g₀, hfr0⟩ := X'.frames_eq
      have hend : Ended (((mx_U (T.setVm vm₁) t).setVm vm₂).setFrames (.throwing x :: below)) below (.threw x) := State.frames_setFrames _ (State.cur_lt_of_frames hfr0)
      refine ⟨((mx_U (T.setVm vm₁) t).setVm vm₂).setFrames (.throwing x :: below), st _ (fun acts => ?_), hlv hf _ rfl X2.here.running hend (X2.ends _).1 (X2.ends _).2⟩
      rw [doInvoke_state]
      refine (hX x rfl).trans (mx_thrownOut hAt (meth := meth) X2.method' hlocks rfl rfl hfind ?_)
      rw [X'.tail]
      exact Steps.refl _
/-! from an invoking instruction to the invocation -/
theorem mx_stepS (hexec : p.tables.exec = Jvm.exec) {own : String} {index maxL n pc : Nat} {y : MethodName} {cY : ByteArray} {ret : Option FieldType} {hh : List (Nat × Nat × Nat × Nat)} (hown : s.vm.findClass own = some m.cls)
    (hlink : (Cond.methodLink own index y).before args s = true) (hstat : (Cond.static y).before args s = true) (hini : (Cond.initialized y.cls).before args s = true) (hcode : mx_Code y cY maxL ret hh s)
    (hy : y.cls ≠ "java/lang/invoke/MethodHandle" ∧ y.cls ≠ "java/lang/invoke/VarHandle") {argsL rest : List Value} (hlen : ∀ sig, parseMethodDescriptor y.desc = some sig → argsL.length = sig.parameters.length)
    (hdg : decode c.code pc = .ok (.invokestatic index, 3)) {ls : Array Slot} :
    ∃ mk, s.methodNamed? y = some mk ∧ ∀ T : State, T.heap = H → Stand p l e R s m args below meth c T locs cells slots → ∃ vm', Stand p l e R s m args below meth c (T.setVm vm') locs cells slots ∧ ∀ target, (∀ acts, Steps p.tables e below (doInvoke e ((T.setVm vm').setTop (F0 m pc ls rest)) acts mk argsL.toArray).1 target) → Steps p.tables e below (T.setTop (F0 m pc ls (argsL.reverse ++ rest))) target := by
  obtain ⟨mk, methM, cM, hnamed, hmethM, -, -, -, -, -, -, hsigM⟩ := hcode
  have hstatic : methM.isStatic = true := Cond.static_spec hnamed hmethM hstat
  obtain ⟨kP, hkP, -⟩ := className_of_methodNamed hnamed
  have hinitP : kP.init = .initialized := Cond.initialized_spec (findClass_of_methodNamed hnamed) hkP hini
  refine ⟨mk, hnamed, fun T hT X => ?_⟩
  exact X.invokestatic hexec hown hlink hnamed hmethM hstatic hkP hinitP hy (g := F0 m pc ls (argsL.reverse ++ rest)) rfl (argsL := argsL) (rest := rest) (hlen _ hsigM) rfl hdg
theorem mx_stepSN (hexec : p.tables.exec = Jvm.exec) {own host : String} {index maxL pc : Nat} {y : MethodName} {cY : ByteArray} {ret : Option FieldType} {hh : List (Nat × Nat × Nat × Nat)} (hown : s.vm.findClass own = some m.cls)
    (hlink : (Cond.methodLinkNest own index y host).before args s = true) (hstat : (Cond.static y).before args s = true) (hini : (Cond.initialized y.cls).before args s = true) (hcode : mx_Code y cY maxL ret hh s)
    (hy : y.cls ≠ "java/lang/invoke/MethodHandle" ∧ y.cls ≠ "java/lang/invoke/VarHandle") {argsL rest : List Value} (hlen : ∀ sig, parseMethodDescriptor y.desc = some sig → argsL.length = sig.parameters.length)
    (hdg : decode c.code pc = .ok (.invokestatic index, 3)) {ls : Array Slot} :
    ∃ mk, s.methodNamed? y = some mk ∧ ∀ T : State, T.heap = H → Stand p l e R s m args below meth c T locs cells slots → ∃ vm', Stand p l e R s m args below meth c (T.setVm vm') locs cells slots ∧ ∀ target, (∀ acts, Steps p.tables e below (doInvoke e ((T.setVm vm').setTop (F0 m pc ls rest)) acts mk argsL.toArray).1 target) → Steps p.tables e below (T.setTop (F0 m pc ls (argsL.reverse ++ rest))) target := by
  obtain ⟨mk, methM, cM, hnamed, hmethM, -, -, -, -, -, -, hsigM⟩ := hcode
  have hstatic : methM.isStatic = true := Cond.static_spec hnamed hmethM hstat
  obtain ⟨kP, hkP, -⟩ := className_of_methodNamed hnamed
  have hinitP : kP.init = .initialized := Cond.initialized_spec (findClass_of_methodNamed hnamed) hkP hini
  refine ⟨mk, hnamed, fun T hT X => ?_⟩
  exact X.invokestaticNest hexec hown hlink hnamed hmethM hstatic hkP hinitP hy (g := F0 m pc ls (argsL.reverse ++ rest)) rfl (argsL := argsL) (rest := rest) (hlen _ hsigM) rfl hdg
end MX5
section MX6
variable {p : Program} {l : Launch} {e : Env} {R : Room} {s : State} {m : MethodId} {args : Array Value} {below : List Frame} {meth : Method} {c : Code} {H : Heap} {locs : List Loc} {cells slots : Nat} {Q : State → Prop}
set_option maxHeartbeats 1000000 in
/-- new X; dup; X.<init>(); athrow: the method ends by it -/
theorem mx_throw {cc : ByteArray} {own cls : String} {names : List String} {ix ic pc : Nat} {ls : Array Slot} {rest : List Value} (hexec : p.tables.exec = Jvm.exec) (hb : c.code = cc) (htr : e.platform.stackTraces = false) (hown : s.vm.findClass own = some m.cls)
    (hcls : Bundle.fit cls = true) (hnames : ∀ n ∈ names, Bundle.fit n = true) (hat : ∀ U : State, U.vm = s.vm → U.heap = H → ∀ a ∈ Cond.classLink own ix cls :: Cond.initialized cls :: Bundle.ownAtoms0 own ic cls names, a.before args U = true)
    (hd0 : decode cc pc = .ok (.new ix, 3)) (hd3 : decode cc (pc + 3) = .ok (.dup, 1)) (hd4 : decode cc (pc + 4) = .ok (.invokespecial ic, 3)) (hd7 : decode cc (pc + 7) = .ok (.athrow, 1))
    (hout : ∀ x ∈ c.exceptionTable.toList, covers x (pc + 7) = false) (hls : ls.size = c.maxLocals) (hlocks : meth.locks = false)
    (hcells : cells + 1 ≤ R.cells) (hslots : slots + 6 ≤ R.slots) (hfr : names.length + 3 < R.frames) (hlo : (rest.map fun v => v.category).sum + 1 + (13 * (names.length + 1) + 41) ≤ R.locals)
    (hq : ∀ (t : State) (ce : Cell), t.heap.size = H.size + 1 → (∀ (q : Nat) (cell : Cell), H[q]? = some cell → t.heap[q]? = some cell) → t.heap[H.size]? = some ce → s.vm.findClass cls = some ce.cls → ce.vm = .none → t.status = .running → Ended t below (.threw H.size) → s.WarmedH t.vm → s.sameButNew ({ t with vm := s.vm } : State) locs (cells + 1) (slots + 6) → Q t) :
    W p l e R s m args below meth c H locs cells slots Q (F0 m pc ls rest) := by
  intro T hT X
  subst hT
  subst hb
  have X0 := mx_rebase X (by omega) (by omega)
  have hat' := hat ({ s with heap := T.heap, slotsUsed := T.slotsUsed } : State) rfl rfl
  obtain ⟨vm₁, cX, kX, hfX, hkX, -, -, X₁, st1⟩ := X0.newCold hexec (own := own) (C := cls) (index := ix) (n := 6) hown (hat' _ (by simp)) (hat' (.instantiable cls 6) (by simp [Bundle.ownAtoms0])) (hat' _ (by simp))
    (g := F0 m pc ls rest) rfl hd0 (by show 0 + 1 ≤ R.cells - cells; omega) (by show 0 + 6 ≤ R.slots - slots; omega)
  generalize hT1 : (T.setVm vm₁).pushCell { cls := cX, slots := kX.instanceTypes.map defaultValue, vm := .none } = T1 at X₁ st1
  have hcellA : T1.heap[T.heap.size]? = some (freshCell cX kX) := by rw [← hT1]; exact State.heap_pushCell_size _ _
  obtain ⟨U, hsteps, hrun, hend, hW, hsame, ce, hce, K⟩ := X₁.ctorThrow0 hexec htr (own := own) (cls := cls) (names := names) (ic := ic) hown hcls hnames
    (fun y hy => hat' y (by simp [hy])) (fun y hy => by cases hy) hfX hkX hcellA (Nat.le_refl _)
    (g := F0 m (pc + 4) ls (.ref T.heap.size :: .ref T.heap.size :: rest)) rfl hls rfl rfl (rest := rest) rfl hd4 hd7 hout hfr
    (by rw [List.map_cons, List.sum_cons]; show 2 * 0 + (1 + _) + _ ≤ R.locals; omega) hlocks
  have hback := mx_back (U := U) X hsame
  refine ⟨U, st1 _ ?_, ?_⟩
  · show Steps p.tables e below (T1.setTop (F0 m (pc + 3) ls (.ref T.heap.size :: rest))) U
    jvm_step X₁.here [X₁.here.top, hexec, hd3, Value.category]
    exact hsteps
  · have hs1 : U.heap.size ≤ T.heap.size + 1 := hsame.2.2.1
    have hs2 : T.heap.size < U.heap.size := (Array.getElem?_eq_some_iff.mp hce).1
    refine hq U ce (by omega) (fun q cell h => ?_) hce K.cls K.vm hrun hend hW (by simpa using hback)
    exact State.sameButNew.old_cell hsame h
end MX6
section MX7
variable {p : Program} {l : Launch} {e : Env} {R : Room} {s : State} {m : MethodId} {args : Array Value} {below : List Frame} {meth : Method} {c : Code} {H : Heap} {locs : List Loc} {cells slots : Nat}
variable {pc index : Nat} {ls : Array Slot} {argsL rest : List Value} {b : Addr}
abbrev mx_Step (p : Program) (l : Launch) (e : Env) (R : Room) (s : State) (m : MethodId) (args : Array Value) (below : List Frame) (meth : Method) (c : Code) (H : Heap) (locs : List Loc) (cells slots : Nat) (pc : Nat) (ls : Array Slot) (st0 rest : List Value) (a : Array Value) (mk : MethodId) : Prop :=
  ∀ T : State, T.heap = H → Stand p l e R s m args below meth c T locs cells slots → ∃ vm', Stand p l e R s m args below meth c (T.setVm vm') locs cells slots ∧ ∀ target, (∀ acts, Steps p.tables e below (doInvoke e ((T.setVm vm').setTop (F0 m pc ls rest)) acts mk a).1 target) → Steps p.tables e below (T.setTop (F0 m pc ls st0)) target
/-- a method that the receiver's class declares, or one that is private: 'methodLink' -/
theorem mx_stepV (hexec : p.tables.exec = Jvm.exec) {own C : String} {y : MethodName} {cY : ByteArray} {maxL : Nat} {ret : Option FieldType} {hh : List (Nat × Nat × Nat × Nat)} (hown : s.vm.findClass own = some m.cls)
    (hlink : (Cond.methodLink own index y).before args s = true) (hinst : (Cond.instanceMethod y).before args s = true) (hsel : (Cond.selects C y y).before args s = true) (hcode : mx_Code y cY maxL ret hh s) (hy : y.cls ≠ "java/lang/invoke/MethodHandle" ∧ y.cls ≠ "java/lang/invoke/VarHandle")
    {cellB : Cell} (hcell : H[b]? = some cellB) (hobj : cellB.vm.isStatics = false) (hcls : s.vm.findClass C = some cellB.cls) (hlen : ∀ sig, parseMethodDescriptor y.desc = some sig → argsL.length = sig.parameters.length) (hdg : decode c.code pc = .ok (.invokevirtual index, 3)) :
    ∃ mk, s.methodNamed? y = some mk ∧ mx_Step p l e R s m args below meth c H locs cells slots pc ls (argsL.reverse ++ .ref b :: rest) rest (Value.ref b :: argsL).toArray mk := by
  obtain ⟨mk, methM, hnamed, hmethM, hstM, habM⟩ := Cond.instanceMethod_spec hinst
  obtain ⟨mk', methM', cM, hnamed', hmethM', -, -, -, -, -, -, hsigM⟩ := hcode
  cases hnamed.symm.trans hnamed'
  cases hmethM.symm.trans hmethM'
  obtain ⟨c2, r2, m2, q1, q2, q3, q4, kP, hkP, hkPi⟩ := Cond.selects_spec hsel
  cases hcls.symm.trans q1
  cases (State.methodFound?_of_named hnamed hy).symm.trans q2
  cases hnamed.symm.trans q3
  refine ⟨mk, hnamed, fun T hT X => ?_⟩
  have hselP : selectMethod e.platform s.vm cellB.cls mk = .method mk := by rw [Launch.admits_selectMethod X.admits]; exact q4
  exact X.invokevirtual hexec hown hlink hnamed hmethM hstM hkP hkPi hy (a := b) (cell := cellB) (by rw [hT]; exact hcell)
    (fun z h => by rw [h] at hobj; cases hobj) hselP hmethM habM hkP hkPi (g := F0 m pc ls (argsL.reverse ++ .ref b :: rest)) rfl (argsL := argsL) (rest := rest) (hlen _ hsigM) rfl hdg
theorem mx_stepVN (hexec : p.tables.exec = Jvm.exec) {own C host : String} {y : MethodName} {cY : ByteArray} {maxL : Nat} {ret : Option FieldType} {hh : List (Nat × Nat × Nat × Nat)} (hown : s.vm.findClass own = some m.cls)
    (hlink : (Cond.methodLinkNest own index y host).before args s = true) (hinst : (Cond.instanceMethod y).before args s = true) (hsel : (Cond.selects C y y).before args s = true) (hcode : mx_Code y cY maxL ret hh s) (hy : y.cls ≠ "java/lang/invoke/MethodHandle" ∧ y.cls ≠ "java/lang/invoke/VarHandle")
    {cellB : Cell} (hcell : H[b]? = some cellB) (hobj : cellB.vm.isStatics = false) (hcls : s.vm.findClass C = some cellB.cls) (hlen : ∀ sig, parseMethodDescriptor y.desc = some sig → argsL.length = sig.parameters.length) (hdg : decode c.code pc = .ok (.invokevirtual index, 3)) :
    ∃ mk, s.methodNamed? y = some mk ∧ mx_Step p l e R s m args below meth c H locs cells slots pc ls (argsL.reverse ++ .ref b :: rest) rest (Value.ref b :: argsL).toArray mk := by
  obtain ⟨mk, methM, hnamed, hmethM, hstM, habM⟩ := Cond.instanceMethod_spec hinst
  obtain ⟨mk', methM', cM, hnamed', hmethM', -, -, -, -, -, -, hsigM⟩ := hcode
  cases hnamed.symm.trans hnamed'
  cases hmethM.symm.trans hmethM'
  obtain ⟨c2, r2, m2, q1, q2, q3, q4, kP, hkP, hkPi⟩ := Cond.selects_spec hsel
  cases hcls.symm.trans q1
  cases (State.methodFound?_of_named hnamed hy).symm.trans q2
  cases hnamed.symm.trans q3
  refine ⟨mk, hnamed, fun T hT X => ?_⟩
  have hselP : selectMethod e.platform s.vm cellB.cls mk = .method mk := by rw [Launch.admits_selectMethod X.admits]; exact q4
  exact X.invokevirtualNest hexec hown hlink hnamed hmethM hstM hkP hkPi hy (a := b) (cell := cellB) (by rw [hT]; exact hcell)
    (fun z h => by rw [h] at hobj; cases hobj) hselP hmethM habM hkP hkPi (g := F0 m pc ls (argsL.reverse ++ .ref b :: rest)) rfl (argsL := argsL) (rest := rest) (hlen _ hsigM) rfl hdg
/-- a method that the named class inherits from 'owner', or that the receiver's class overrides -/
theorem mx_stepU (hexec : p.tables.exec = Jvm.exec) {own C owner : String} {x y : MethodName} (hown : s.vm.findClass own = some m.cls)
    (hlink : (Cond.methodLink own index x).before args s = true) (hsame : (Cond.sameMethod x.cls owner x.name x.desc).before args s = true) (hd0 : va_Decl s ⟨owner, x.name, x.desc⟩) (howner : owner ≠ "java/lang/invoke/MethodHandle" ∧ owner ≠ "java/lang/invoke/VarHandle")
    (hsel : (Cond.selects C x y).before args s = true) (hinst : (Cond.instanceMethod y).before args s = true)
    {cellB : Cell} (hcell : H[b]? = some cellB) (hobj : cellB.vm.isStatics = false) (hcls : s.vm.findClass C = some cellB.cls) (hlen : ∀ sig, parseMethodDescriptor x.desc = some sig → argsL.length = sig.parameters.length) (hdg : decode c.code pc = .ok (.invokevirtual index, 3)) :
    ∃ mk, s.methodNamed? y = some mk ∧ mx_Step p l e R s m args below meth c H locs cells slots pc ls (argsL.reverse ++ .ref b :: rest) rest (Value.ref b :: argsL).toArray mk := by
  obtain ⟨r0, r, hn, hrm, hstR, hsigR⟩ := hd0
  obtain ⟨cn, ck, r1, hcn, hck, hni, hf, hn1⟩ := Cond.sameMethod_found hsame
  cases hn.symm.trans hn1
  obtain ⟨mk, methM, hnamed, hmethM, -, habM⟩ := Cond.instanceMethod_spec hinst
  obtain ⟨c2, r2, m2, q1, q2, q3, q4, kP, hkP, hkPi⟩ := Cond.selects_spec hsel
  cases hcls.symm.trans q1
  cases hf.symm.trans q2
  cases hnamed.symm.trans q3
  refine ⟨mk, hnamed, fun T hT X => ?_⟩
  have hselP : selectMethod e.platform s.vm cellB.cls r0 = .method mk := by rw [Launch.admits_selectMethod X.admits]; exact q4
  exact X.invokevirtualUp hexec hown hlink hsame howner hn hrm hstR (a := b) (cell := cellB) (by rw [hT]; exact hcell)
    (fun z h => by rw [h] at hobj; cases hobj) hselP hmethM habM hkP hkPi (g := F0 m pc ls (argsL.reverse ++ .ref b :: rest)) rfl (argsL := argsL) (rest := rest) (hlen _ hsigR) rfl hdg
theorem mx_stepI (hexec : p.tables.exec = Jvm.exec) {own : String} {y : MethodName} {cY : ByteArray} {maxL : Nat} (hown : s.vm.findClass own = some m.cls) (hy1 : y.name = "<init>")
    (hlink : (Cond.methodLink own index y).before args s = true) (hinst : (Cond.instanceMethod y).before args s = true) (hcode : (Cond.code y cY maxL none).before args s = true) (hy : y.cls ≠ "java/lang/invoke/MethodHandle" ∧ y.cls ≠ "java/lang/invoke/VarHandle")
    (hlen : ∀ sig, parseMethodDescriptor y.desc = some sig → argsL.length = sig.parameters.length) (hdg : decode c.code pc = .ok (.invokespecial index, 3)) :
    ∃ mk, s.methodNamed? y = some mk ∧ mx_Step p l e R s m args below meth c H locs cells slots pc ls (argsL.reverse ++ .ref b :: rest) rest (Value.ref b :: argsL).toArray mk := by
  obtain ⟨mk, hn⟩ := Cond.code_named hcode
  refine ⟨mk, hn, fun T hT X => ?_⟩
  have hpl : e.platform.magicAccessors = ({} : Platform).magicAccessors := by rw [X.admits.platform]
  obtain ⟨mk', methM, cM, kP, vm₁, hnamed, hmethM, hcodeM, -, hlocalsM, -, hkP, -, hW₁, hstep₁⟩ := Steps.initColdArgs (tb := p.tables) (e := e) X.here hexec X.warmed hpl hown hy1 hy hlink hinst hcode (f := F0 m pc ls (argsL.reverse ++ .ref b :: rest)) rfl hlen rfl hdg
  cases hn.symm.trans hnamed
  exact ⟨vm₁, X.noted hW₁, hstep₁⟩
theorem mx_stepIN (hexec : p.tables.exec = Jvm.exec) {own host : String} {y : MethodName} {cY : ByteArray} {maxL : Nat} (hown : s.vm.findClass own = some m.cls) (hy1 : y.name = "<init>")
    (hlink : (Cond.methodLinkNest own index y host).before args s = true) (hinst : (Cond.instanceMethod y).before args s = true) (hcode : (Cond.code y cY maxL none).before args s = true) (hy : y.cls ≠ "java/lang/invoke/MethodHandle" ∧ y.cls ≠ "java/lang/invoke/VarHandle")
    (hlen : ∀ sig, parseMethodDescriptor y.desc = some sig → argsL.length = sig.parameters.length) (hdg : decode c.code pc = .ok (.invokespecial index, 3)) :
    ∃ mk, s.methodNamed? y = some mk ∧ mx_Step p l e R s m args below meth c H locs cells slots pc ls (argsL.reverse ++ .ref b :: rest) rest (Value.ref b :: argsL).toArray mk := by
  obtain ⟨mk, hn⟩ := Cond.code_named hcode
  refine ⟨mk, hn, fun T hT X => ?_⟩
  have hpl : e.platform.magicAccessors = ({} : Platform).magicAccessors := by rw [X.admits.platform]
  obtain ⟨mk', methM, cM, kP, vm₁, hnamed, hmethM, hcodeM, -, hlocalsM, -, hkP, -, hW₁, hstep₁⟩ := Steps.initColdArgsNest (tb := p.tables) (e := e) X.here hexec X.warmed hpl hown hy1 hy hlink hinst hcode (f := F0 m pc ls (argsL.reverse ++ .ref b :: rest)) rfl hlen rfl hdg
  cases hn.symm.trans hnamed
  exact ⟨vm₁, X.noted hW₁, hstep₁⟩
end MX7
