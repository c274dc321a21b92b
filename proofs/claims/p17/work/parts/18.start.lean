/-! the law's start: what the Statement gives -/
def mm_sd (j : Nat) : List Int32 := match j with
  | 0 => [3, 7, 21]
  | 1 => [2, 3, 4]
  | 2 => [3, 5, 7]
  | _ => [0, 0, 0, 0, 1, 1, 1, 1, 2, 2, 2, 2, 3, 3, 3, 3, 4, 4, 5, 5, 6, 6, 7, 7, 8, 9, 10, 11, 12, 13, 14, 15]
def mm_Z (L : Nat) (xs : Nat → Int32) (j : Nat) : Option (Nat × (Nat → Int32)) := match j with
  | 0 => some (3, fun k => (mm_sd 0).getD k 0)
  | 1 => some (3, fun k => (mm_sd 1).getD k 0)
  | 2 => some (3, fun k => (mm_sd 2).getD k 0)
  | 3 => some (32, fun k => (mm_sd 3).getD k 0)
  | 4 => some (L, xs)
  | _ => none
abbrev mm_stt (j : Nat) : Term := .static (mm_sn j).1 (mm_sn j).2 "[I"
theorem mm_nar1 : ∀ j, j < 4 → Cond.arrayOf (mm_stt j) .int ∈ flatC (Jvm.Cond.and given_1 narrow_1) ∧ Cond.eq (.length (mm_stt j)) (.int (Int32.ofNat (mm_sd j).length)) ∈ flatC (Jvm.Cond.and given_1 narrow_1) := by decide +kernel
theorem mm_nar2 : ∀ j, j < 4 → ∀ k, k < (mm_sd j).length → Cond.eq (.elem (mm_stt j) (.int (Int32.ofNat k))) (.int ((mm_sd j).getD k 0)) ∈ flatC (Jvm.Cond.and given_1 narrow_1) := by decide +kernel
theorem mm_nar3 : mm_u1 ∈ flatC (Jvm.Cond.and given_1 narrow_1) ∧ mm_u2 ∈ flatC (Jvm.Cond.and given_1 narrow_1) := by decide +kernel
theorem mm_nar4 : ∀ x ∈ [11, 12, 13], ∀ y ∈ [11, 12, 13], x = y ∨ Cond.not (.castable (mm_C x) (mm_C y)) ∈ flatC (Jvm.Cond.and given_1 narrow_1) := by decide +kernel
theorem mm_nar5 : ∀ q ∈ mm_lss, Cond.laysStatic q.1 q.2.1 q.2.2 ∈ lw_tbl ∧ Cond.initialized q.1 ∈ lw_tbl := by decide +kernel
theorem mm_nar6 : ∀ j, j < 4 → ((mm_sn j).1, (mm_sn j).2, "[I") ∈ mm_lss ∧ (mm_sd j).length < 2 ^ 31 := by decide +kernel
theorem mm_made3 : ∀ c, c < 14 → ∃ n, (n = mm_N c ∨ n = 6) ∧ Cond.instantiable (mm_C c) n ∈ lw_tbl := by
  intro c hc
  by_cases h : c < 11
  · exact ⟨mm_N c, Or.inl rfl, (mm_made_ok c h).1⟩
  · refine ⟨6, Or.inr rfl, ?_⟩
    have : ∀ c, c < 14 → c < 11 ∨ Cond.instantiable (mm_C c) 6 ∈ lw_tbl := by decide +kernel
    rcases this c hc with h1 | h1
    · exact absurd h1 h
    · exact h1
theorem mm_knows {args : Array Value} {s : State} (hts : ∀ w ∈ lw_tbl, w.before args s = true) : ∃ D : va_G, ∀ (c : Nat) (q : vw_C), mm_cl[c]? = some q → u_Kn s q.1 q.2.1 q.2.2 (D.1 c) (D.2 c) := by
  have h : ∀ c, ∃ q : ClassId × (Nat → Nat), c < 14 → u_Kn s (mm_C c) (mm_T c) (mm_N c) q.1 q.2 := by
    intro c
    by_cases hc : c < 14
    · obtain ⟨n, -, hn⟩ := mm_made3 c hc
      obtain ⟨cC, iS, hk⟩ := u_known hts (mm_in c hc) (hts _ hn)
      exact ⟨(cC, iS), fun _ => hk⟩
    · exact ⟨(0, fun _ => 0), fun h => absurd h hc⟩
  refine ⟨(fun c => (Classical.choose (h c)).1, fun c => (Classical.choose (h c)).2), fun c q hq => ?_⟩
  have hc : c < 14 := (List.getElem?_eq_some_iff.mp hq).1
  rw [mm_cl_at c hc] at hq
  cases hq
  exact Classical.choose_spec (h c) hc
theorem mm_arrs {args : Array Value} {s : State} (hts : ∀ w ∈ lw_tbl, w.before args s = true) : ∃ cA : FieldType → ClassId, ∀ (k : Nat) (q : ClassId × FieldType), (mm_tys cA)[k]? = some q → ArrOfT s q.1 q.2 ∧ va_RA s q.1 q.2 := by
  have one : ∀ ty : FieldType, Cond.arrayClass ty ∈ lw_tbl → ∃ cA : ClassId, ArrOfT s cA ty ∧ s.vm.findClass ("[" ++ ty.toString) = some cA := by
    intro ty hty
    obtain ⟨cA, kA, comp, h1, h2, h3⟩ := Cond.arrayClass_spec (hts _ hty)
    exact ⟨cA, fun n z => ⟨fun k h => (by cases h), kA, h2, comp, h3⟩, h1⟩
  obtain ⟨a1, a2, a3⟩ := mm_arr_ok
  obtain ⟨c1, p1, q1⟩ := one _ a1
  obtain ⟨c2, p2, q2⟩ := one _ a2
  obtain ⟨c3, p3, q3⟩ := one _ a3
  refine ⟨fun ty => match ty with | .int => c1 | .byte => c2 | _ => c3, fun k q hq => ?_⟩
  match k, hq with
  | 0, hq => cases hq; exact ⟨p1, q1⟩
  | 1, hq => cases hq; exact ⟨p2, q2⟩
  | 2, hq => cases hq; exact ⟨p3, q3⟩
  | k + 3, hq => cases hq
theorem mm_olds {args : Array Value} {s : State} {b L : Nat} {xs : Nat → Int32} (hts : ∀ w ∈ lw_tbl, w.before args s = true) (hgv : (Jvm.Cond.and given_1 narrow_1).before args s = true) (hX : va_X b L xs s s.heap) (hb : b < s.heap.size) :
    ∃ sa : Nat → Nat, sa 4 = b ∧ mm_Olds (mm_Z L xs) sa s.heap.size s s.heap := by
  have hs := flat_of_before _ hgv
  have hA : ∀ a : Nat, a < s.heap.size → ¬ mm_A s.heap.size a := fun a h h2 => by have : s.heap.size ≤ a := h2; omega
  have one : ∀ j, j < 4 → ∃ t : Nat, (mm_stt j).eval args s none [] s = some (.ref t) ∧ va_T .int t (mm_sd j).length (fun k => .int ((mm_sd j).getD k 0)) (mm_A s.heap.size) s s.heap := by
    intro j hj
    exact va_Tof (mm_nar6 j hj).2 (hs _ (mm_nar1 j hj).1) (va_eqt (hs _ (mm_nar1 j hj).2)) (fun k hk => va_eqt (hs _ (mm_nar2 j hj k hk))) hA
  have sel : ∀ j, ∃ t : Nat, j < 4 → (mm_stt j).eval args s none [] s = some (.ref t) ∧ va_T .int t (mm_sd j).length (fun k => .int ((mm_sd j).getD k 0)) (mm_A s.heap.size) s s.heap := by
    intro j
    by_cases hj : j < 4
    · obtain ⟨t, ht⟩ := one j hj
      exact ⟨t, fun _ => ht⟩
    · exact ⟨0, fun h => absurd h hj⟩
  refine ⟨fun j => if j < 4 then Classical.choose (sel j) else b, rfl, ?_, ?_, ?_, ?_, ?_⟩
  · intro j n f hj
    match j, hj with
    | 0, hj => cases hj; exact (Classical.choose_spec (sel 0) (by decide)).2
    | 1, hj => cases hj; exact (Classical.choose_spec (sel 1) (by decide)).2
    | 2, hj => cases hj; exact (Classical.choose_spec (sel 2) (by decide)).2
    | 3, hj => cases hj; exact (Classical.choose_spec (sel 3) (by decide)).2
    | 4, hj =>
      cases hj
      obtain ⟨scr, h1, h2, h3, h4, h5⟩ := hX
      exact ⟨scr, h1, h2, h3, Nat.le_of_eq h4.symm, by rw [h4], h5, hA b hb⟩
    | j + 5, hj => cases hj
  · intro j hj
    have h1 := Classical.choose_spec (sel j) hj
    show va_Z _ _ _ (.ref (if j < 4 then Classical.choose (sel j) else b)) _ _ _
    rw [if_pos hj]
    exact va_Zref (hts _ (mm_nar5 _ (mm_nar6 j hj).1).1) (hts _ (mm_nar5 _ (mm_nar6 j hj).1).2) h1.1 hA
  · exact va_Zqof (hts _ (mm_nar5 _ List.mem_cons_self).1) (hts _ (mm_nar5 _ List.mem_cons_self).2) (hs _ mm_nar3.1) hA
  · exact va_Zqof (hts _ (mm_nar5 _ (List.mem_cons_of_mem _ List.mem_cons_self)).1) (hts _ (mm_nar5 _ (List.mem_cons_of_mem _ List.mem_cons_self)).2) (hs _ mm_nar3.2) hA
  · intro q hq
    exact mm_Ls_of (hts _ (mm_nar5 q hq).1) hA
theorem mm_ncs {args : Array Value} {s : State} (hgv : (Jvm.Cond.and given_1 narrow_1).before args s = true) : mm_Ncs s := by
  intro x hx y hy hxy
  rcases mm_nar4 x hx y hy with h | h
  · exact absurd h hxy
  · exact va_Nc.of (flat_of_before _ hgv _ h)
