/-! the class's tape reader -/
theorem tm2_bd (x : Int) : -1 ≤ x.tmod 2 ∧ x.tmod 2 ≤ 1 := by
  rcases Int.le_total 0 x with h | h
  · rw [Int.tmod_eq_emod_of_nonneg h]
    omega
  · have e : x.tmod 2 = -((-x).tmod 2) := by rw [Int.neg_tmod, Int.neg_neg]
    rw [e, Int.tmod_eq_emod_of_nonneg (by omega)]
    omega
theorem tt_rmn {Zi : Nat → Option (Nat × (Nat → Int))} {d M pc len : Nat} {ls : List (Option mi_V)} {st : List mi_V} {H : mi_H} {Q : mi_Rs → mi_H → Prop} {x y : Int} (hk : mm_kT M pc = some (.irem, len)) (hr : (-2147483648 ≤ x ∧ x ≤ 2147483647) ∧ 0 < y ∧ y ≤ 2147483647) (g : tt Zi d M (pc + 1, ls, .inl (x.tmod y) :: st, H) Q) : tt Zi d M (pc, ls, .inl y :: .inl x :: st, H) Q := by
  obtain ⟨k, r, w, h1, h2⟩ := g
  refine ⟨k + 1, r, w, ?_, h2⟩
  have hy0 : ¬ Int32.ofInt y = 0 := by
    intro e
    have e2 := congrArg Int32.toInt e
    rw [mi_ti (by omega)] at e2
    have : (0 : Int32).toInt = 0 := rfl
    omega
  have e4 : Int32.ofInt (x.tmod y) = Int32.ofInt x - Int32.ofInt x / Int32.ofInt y * Int32.ofInt y := by
    rw [← mi_tdiv_ok hr.1 hr.2.1 hr.2.2, ← Int32.ofInt_mul, ← Int32.ofInt_sub, Int.tmod_def, Int.mul_comm]
  have hp : mm_pure .irem pc (mi_cl ls) (mi_cs (.inl y :: .inl x :: st)) = some (pc + 1, mi_cl ls, .int (Int32.ofInt (x.tmod y)) :: mi_cs st) := by
    show (if Int32.ofInt y = 0 then none else some (pc + 1, mi_cl ls, Value.int (Int32.ofInt x - Int32.ofInt x / Int32.ofInt y * Int32.ofInt y) :: mi_cs st)) = _
    rw [if_neg hy0, e4]
  have ha : mm_act (mi_cz Zi) M (mi_cS (pc, ls, .inl y :: .inl x :: st, H)) = some (.inl (mi_cS (pc + 1, ls, .inl (x.tmod y) :: st, H))) := by
    apply mm_actF_le
    unfold mm_actF
    show (match mm_kT M pc with | some (i, _) => _ | none => none) = _
    rw [hk]
    show (match mm_pure .irem pc (mi_cl ls) (mi_cs (.inl y :: .inl x :: st)) with | some q => some (Sum.inl (q.1, q.2.1, q.2.2, mi_mk H)) | none => none : Option mm_Ac) = _
    rw [hp]
    rfl
  rw [mm_ex]
  simp only [ha]
  exact h1
set_option maxRecDepth 100000 in
set_option maxHeartbeats 4000000 in
theorem g_tbegin {g : Nat → Int} {Zi : Nat → Option (Nat × (Nat → Int))} {d n q : Nat} {D : Nat → Nat × Nat} {s : Nat → Int} {p : Nat → Nat} {c : Nat → Nat → Int} (hd : 0 ≤ d) (hz : zk Zi) (hq : q + 0 ≤ 400000) (hD : wd n p) (hS : bS s) (hC : bC D c) (hW : wp q g n D p s)  : tt Zi d 17 (0, [some (.inr (.inl 20))], [], n, D, s, p, c) (fun R H => ∃ (s' : Nat → Int), R = .inl none ∧ H = (n, D, s', p, c) ∧ bS s' ∧ wp q g n D p s' ∧ fr s s' [2001] ∧ (s' 2001 = 0)) := by
  refine tt_k 3 (S' := (5, [some (.inr (.inl 20))], [], n, D, (us s 2001 0), p, c)) rfl ?_
  exact tt_rtv rfl rfl ⟨(us s 2001 0), rfl, rfl, (bS_us hS (show 0 ≤ 0 ∧ 0 ≤ 100000 by omega)), (wp_us (by decide) hW), (fr_us (by decide) fr_rf), rfl⟩
set_option maxRecDepth 100000 in
set_option maxHeartbeats 4000000 in
theorem g_openPlace {g : Nat → Int} {Zi : Nat → Option (Nat × (Nat → Int))} {d n q : Nat} {D : Nat → Nat × Nat} {s : Nat → Int} {p : Nat → Nat} {c : Nat → Nat → Int} (hd : 0 ≤ d) (hz : zk Zi) (hq : q + 0 ≤ 400000) (hD : wd n p) (hS : bS s) (hC : bC D c) (hW : wp q g n D p s)  : tt Zi d 22 (0, [some (.inr (.inl 20))], [], n, D, s, p, c) (fun R H => ∃ (r : Int), R = .inl (some (.inl r)) ∧ H = (n, D, s, p, c) ∧ (-1 ≤ r ∧ r ≤ 99999) ∧ (r = s 2001 - 1)) := by
  refine tt_k 4 (S' := (6, [some (.inr (.inl 20))], [.inl ((s 2001) - 1)], n, D, s, p, c)) rfl ?_
  have b1 : 0 ≤ (s 2001) ∧ (s 2001) ≤ 100000 := hS 2001
  exact tt_rti rfl rfl ⟨((s 2001) - 1), rfl, rfl, by omega, by show ((s 2001) - 1) = s 2001 - 1; omega⟩
