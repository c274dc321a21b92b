/-! two ends of one run are one -/
theorem mm_exl2 {act : Nat → mm_S → Option mm_Ac} {hand : Nat → Nat → Nat → Option Nat} {n m d M : Nat} {S : mm_S} {r : mm_Rs × mm_W} (h : mm_ex act hand n d M S = some r) (hl : n ≤ m) : mm_ex act hand m d M S = some r := by
  induction hl with
  | refl => exact h
  | step _ ih => exact mm_ex_succ _ _ _ _ _ _ _ ih
theorem tt_conj {Zi : Nat → Option (Nat × (Nat → Int))} {d M : Nat} {S : mi_S} {Q1 Q2 Q : mi_Rs → mi_H → Prop} (h1 : tt Zi d M S Q1) (h2 : tt Zi d M S Q2) (g : ∀ r H, Q1 r H → ∀ r2 H2, Q2 r2 H2 → mi_cr r = mi_cr r2 → mi_mk H = mi_mk H2 → Q r H) : tt Zi d M S Q := by
  obtain ⟨k1, r1, H1, e1, q1⟩ := h1
  obtain ⟨k2, r2, H2, e2, q2⟩ := h2
  have a1 := mm_exl2 e1 (Nat.le_max_left k1 k2)
  have a2 := mm_exl2 e2 (Nat.le_max_right k1 k2)
  rw [a1] at a2
  injection a2 with a2
  injection a2 with b1 b2
  exact ⟨k1, r1, H1, e1, g r1 H1 q1 r2 H2 q2 b1 b2⟩
theorem mi_oi2 {x y : Int} (hx : -2147483648 ≤ x ∧ x ≤ 2147483647) (hy : -2147483648 ≤ y ∧ y ≤ 2147483647) (h : Int32.ofInt x = Int32.ofInt y) : x = y := by
  have h1 := congrArg Int32.toInt h
  rw [mi_ti hx, mi_ti hy] at h1
  exact h1
theorem cond_gz {b : Bool} {x y z : Int} (h1 : z ≤ x) (h2 : z ≤ y) : z ≤ cond b x y := by
  cases b
  · exact h2
  · exact h1
theorem cond_lz {b : Bool} {x y z : Int} (h1 : x ≤ z) (h2 : y ≤ z) : cond b x y ≤ z := by
  cases b
  · exact h2
  · exact h1
set_option maxRecDepth 100000 in
theorem bS_rl (k : Nat) : -2147483648 ≤ bS_lo k := by
  unfold bS_lo
  repeat' first | exact (by decide) | apply cond_gz
set_option maxRecDepth 100000 in
theorem bS_rh (k : Nat) : bS_hi k ≤ 2147483647 := by
  unfold bS_hi
  repeat' first | exact (by decide) | apply cond_lz
theorem bS_rg {s : Nat → Int} (h : bS s) (k : Nat) : -2147483648 ≤ s k ∧ s k ≤ 2147483647 := by
  have h1 := h k
  have h2 := bS_rl k
  have h3 := bS_rh k
  omega
theorem mk_ce {H H2 : mi_H} (h : mi_mk H = mi_mk H2) {a : Nat} (ha : a < 48) : mi_cell H a = mi_cell H2 a := by
  have h1 := congrArg (fun l => l[a]?) h
  simp only [mi_mk_get (H := H) (a := a) (by omega), mi_mk_get (H := H2) (a := a) (by omega)] at h1
  injection h1
theorem mk_s {n n2 : Nat} {D D2 : Nat → Nat × Nat} {s s2 : Nat → Int} {p p2 : Nat → Nat} {c c2 : Nat → Nat → Int} (h : mi_mk (n, D, s, p, c) = mi_mk (n2, D2, s2, p2, c2)) (hS : bS s) (hS2 : bS s2) (k : Nat) (hk : k < mm_N 10 ∧ Nat.ble (mi_ft 10 k) 1 = true) : s2 (100 * 30 + k) = s (100 * 30 + k) := by
  have e := mk_ce h (a := 30) (by decide)
  rw [mi_cell_ob (cj := 10) rfl, mi_cell_ob (cj := 10) rfl] at e
  injection e with e
  injection e with _ e
  have h2 := congrArg (fun l => l[k]?) e
  simp only [mi_fs_get (show 10 < 11 by decide) hk.1] at h2
  injection h2 with h2
  unfold mi_fv at h2
  rw [hk.2] at h2
  injection h2 with h2
  exact (mi_oi2 (bS_rg hS _) (bS_rg hS2 _) h2).symm
theorem mk_c {n n2 : Nat} {D D2 : Nat → Nat × Nat} {s s2 : Nat → Int} {p p2 : Nat → Nat} {c c2 : Nat → Nat → Int} (h : mi_mk (n, D, s, p, c) = mi_mk (n2, D2, s2, p2, c2)) (hC : bC D c) (hC2 : bC D2 c2) (a : Nat) (ha : a < 48 ∧ (mi_d0 a).1 < 2) : c2 a = c a := by
  have e := mk_ce h (a := a) ha.1
  have hd : ∀ D : Nat → Nat × Nat, mi_dsc D a = mi_d0 a := by
    intro D
    unfold mi_dsc
    have hb : Nat.ble 48 a = false := by
      cases hq : Nat.ble 48 a with
      | false => rfl
      | true => exact absurd (Nat.le_of_ble_eq_true hq) (by omega)
    rw [hb]
    rfl
  have e : mi_ce (mi_dsc D a) s p (c a) a = mi_ce (mi_dsc D2 a) s2 p2 (c2 a) a := e
  rw [hd D, hd D2] at e
  obtain ⟨ha1, ha2⟩ := ha
  rcases hx : mi_d0 a with ⟨t, m⟩
  rw [hx] at e ha2
  have ha2 : t < 2 := ha2
  funext i
  match t, ha2, e with
  | 0, _, e =>
    injection e with e
    injection e with _ e
    injection e with _ e
    injection e with e
    exact (mi_oi2 (bC_any hC _ _) (bC_any hC2 _ _) (congrFun e i)).symm
  | 1, _, e =>
    injection e with e
    injection e with _ e
    injection e with _ e
    injection e with e
    exact (mi_oi2 (bC_any hC _ _) (bC_any hC2 _ _) (congrFun e i)).symm
theorem mk_r {x y : Int} (hx : -2147483648 ≤ x ∧ x ≤ 2147483647) (hy : -2147483648 ≤ y ∧ y ≤ 2147483647) (h : mi_cr (.inl (some (.inl x))) = mi_cr (.inl (some (.inl y)))) : y = x := by
  have h1 : (Sum.inl (some (Value.int (Int32.ofInt x))) : mm_Rs) = Sum.inl (some (Value.int (Int32.ofInt y))) := h
  injection h1 with h1
  injection h1 with h1
  injection h1 with h1
  exact (mi_oi2 hx hy h1).symm
