/-! a private method of a superclass, on an object of a subclass -/
theorem mm_ipp : ∀ cn, cn < 14 → ∀ e ∈ mm_ip cn, e.2.1 < 10 → ∀ t ∈ e.2.2.2.2, 0 < t.2.1 := by decide +kernel
theorem mm_cwn0 : ∀ w ∈ lw_tbl, (match w with | .codeWith _ _ _ _ hh => !hh.isEmpty | _ => true) = true := by decide +kernel
theorem mm_cwn (T : Nat) (_ : T < 201) (h : Cond.codeWith (mm_y T) (mm_bytes T) (mm_mL T) (mm_rt T) (mm_hh T) ∈ lw_tbl) : mm_hh T ≠ [] := by
  have h1 := mm_cwn0 _ h
  intro h2
  rw [h2] at h1
  cases h1
theorem mm_cw0 {T : Nat} (hT : T < 201) (h0 : 0 < T) (hh : mm_hh T = []) (hr : mm_rt T = none) : Cond.code (mm_y T) (mm_bytes T) (mm_mL T) none ∈ lw_tbl := by
  rcases mm_cws T h0 hT with ⟨-, h⟩ | h
  · rw [hr] at h; exact h
  · exact absurd hh (mm_cwn T hT h)
section MX8
variable {p : Program} {l : Launch} {e : Env} {R : Room} {s : State} {m : MethodId} {args : Array Value} {below : List Frame} {meth : Method} {c : Code} {H : Heap} {locs : List Loc} {cells slots : Nat}
variable {pc index : Nat} {ls : Array Slot} {argsL rest : List Value} {b : Addr}
theorem mx_stepP (hexec : p.tables.exec = Jvm.exec) {own : String} {y : MethodName} {cY : ByteArray} {maxL : Nat} {ret : Option FieldType} {hh : List (Nat × Nat × Nat × Nat)} (hown : s.vm.findClass own = some m.cls)
    (hlink : (Cond.methodLink own index y).before args s = true) (hsame : (Cond.sameMethod y.cls y.cls y.name y.desc).before args s = true) (hpriv : (Cond.privateMethod y).before args s = true) (hinst : (Cond.instanceMethod y).before args s = true) (hcode : mx_Code y cY maxL ret hh s) (hy : y.cls ≠ "java/lang/invoke/MethodHandle" ∧ y.cls ≠ "java/lang/invoke/VarHandle")
    {cellB : Cell} (hcell : H[b]? = some cellB) (hobj : cellB.vm.isStatics = false) (hlen : ∀ sig, parseMethodDescriptor y.desc = some sig → argsL.length = sig.parameters.length) (hdg : decode c.code pc = .ok (.invokevirtual index, 3)) :
    ∃ mk, s.methodNamed? y = some mk ∧ mx_Step p l e R s m args below meth c H locs cells slots pc ls (argsL.reverse ++ .ref b :: rest) rest (Value.ref b :: argsL).toArray mk := by
  obtain ⟨mk, methM, hnamed, hmethM, hstM, habM⟩ := Cond.instanceMethod_spec hinst
  obtain ⟨mk', methM', cM, hnamed', hmethM', -, -, -, -, -, -, hsigM⟩ := hcode
  cases hnamed.symm.trans hnamed'
  cases hmethM.symm.trans hmethM'
  obtain ⟨cn, ck, r1, hcn, hck, hni, hf, hn1⟩ := Cond.sameMethod_found hsame
  have hn1' : s.methodNamed? y = some r1 := hn1
  cases hnamed.symm.trans hn1'
  have hcls : mk.cls = cn := Option.some.inj ((findClass_of_methodNamed hnamed).symm.trans hcn)
  refine ⟨mk, hnamed, fun T hT X => ?_⟩
  have hselP : selectMethod e.platform s.vm cellB.cls mk = .method mk := selectMethod_private hmethM (Cond.privateMethod_at hpriv mk methM hnamed hmethM)
  exact X.invokevirtualUp hexec hown hlink hsame hy hnamed hmethM hstM (a := b) (cell := cellB) (by rw [hT]; exact hcell)
    (fun z h => by rw [h] at hobj; cases hobj) hselP hmethM habM (by rw [hcls]; exact hck) hni (g := F0 m pc ls (argsL.reverse ++ .ref b :: rest)) rfl (argsL := argsL) (rest := rest) (hlen _ hsigM) rfl hdg
end MX8
