/-! the class's memory -/
theorem wp_sw9 {g : Nat → Int} {q n : Nat} {D : Nat → Nat × Nat} {p : Nat → Nat} {s : Nat → Int} (h : wp q g n D p s) : wp q g n D (up (up p 900 (p 901)) 901 (p 900)) s := ⟨h.nb, h.dz, h.r4, h.r6, h.c4, h.c6, h.p1, h.p25, h.p27, h.w1, h.w25, h.w27, sw_sy h.m9, h.a12, h.a21, h.pp, h.s12, h.s21, h.wo, h.gz⟩
theorem wp_sw12 {g : Nat → Int} {q n : Nat} {D : Nat → Nat × Nat} {p : Nat → Nat} {s : Nat → Int} (h : wp q g n D p s) : wp q g n D (up (up p 1203 (p 1204)) 1204 (p 1203)) s := ⟨h.nb, h.dz, h.r4, h.r6, h.c4, h.c6, h.p1, h.p25, h.p27, h.w1, h.w25, h.w27, h.m9, sw_sy h.a12, h.a21, h.pp, h.s12, h.s21, h.wo, h.gz⟩
theorem wp_sw21 {g : Nat → Int} {q n : Nat} {D : Nat → Nat × Nat} {p : Nat → Nat} {s : Nat → Int} (h : wp q g n D p s) : wp q g n D (up (up p 2103 (p 2104)) 2104 (p 2103)) s := ⟨h.nb, h.dz, h.r4, h.r6, h.c4, h.c6, h.p1, h.p25, h.p27, h.w1, h.w25, h.w27, h.m9, h.a12, sw_sy h.a21, h.pp, h.s12, h.s21, h.wo, h.gz⟩
section GFL
variable {Zi : Nat → Option (Nat × (Nat → Int))} {d n : Nat} {D : Nat → Nat × Nat} {s : Nat → Int} {p : Nat → Nat} {c : Nat → Nat → Int} {A m : Nat}
theorem g_fill_L {Q : mi_Rs → mi_H → Prop} (ha : mi_arr n D A = some (0, m)) (hm : m ≤ 100000) (hb : bC_lo D A ≤ 0 ∧ 0 ≤ bC_hi D A) (hK : ∀ c1 f, bC D c1 → c1 = uc c A f → (∀ j : Nat, j < m → f j = 0) → tt Zi d 13 (20, [some (.inr (.inl A)), some (.inl 0), some (.inl (m : Int)), some (.inl (m : Int))], [], n, D, s, p, c1) Q) : ∀ (k : Nat) (i : Int) (c1 : Nat → Nat → Int) (f : Nat → Int), 0 ≤ i → i ≤ m → bC D c1 → c1 = uc c A f → (∀ j : Nat, (j : Int) < i → f j = 0) → ((m : Int) - i).toNat < k → tt Zi d 13 (5, [some (.inr (.inl A)), some (.inl 0), some (.inl i), some (.inl (m : Int))], [], n, D, s, p, c1) Q := by
  intro k
  induction k with
  | zero => intro i c1 f _ _ _ _ _ h; exact absurd h (by omega)
  | succ k ih =>
    intro i c1 f h0 h1 hC he hf hk
    refine tt_k 2 (S' := (7, [some (.inr (.inl A)), some (.inl 0), some (.inl i), some (.inl (m : Int))], [.inl (m : Int), .inl i], n, D, s, p, c1)) rfl ?_
    refine tb_ge (x := i) (y := (m : Int)) rfl rfl (by omega) (fun h => ?_) (fun h => ?_)
    · have e : i = m := by omega
      rw [e]
      exact hK c1 f hC he (fun j hj => hf j (by omega))
    · show tt Zi d 13 (10, [some (.inr (.inl A)), some (.inl 0), some (.inl i), some (.inl (m : Int))], [], n, D, s, p, c1) Q
      refine tt_k 3 (S' := (13, [some (.inr (.inl A)), some (.inl 0), some (.inl i), some (.inl (m : Int))], [.inl 0, .inl i, .inr (.inl A)], n, D, s, p, c1)) rfl ?_
      refine tt_ist (i := i) (x := 0) rfl ha (by omega) ?_
      refine tt_k 2 (S' := (5, [some (.inr (.inl A)), some (.inl 0), some (.inl (i + 1)), some (.inl (m : Int))], [], n, D, s, p, uc c1 A (ua (c1 A) i.toNat 0))) rfl ?_
      exact ih (i + 1) _ (ua f i.toNat 0) (by omega) (by omega) (bC_st hC hb) (by rw [he, uc_uc, uc_eq]) (ua_all hf h0) (by omega)
theorem g_fill (ha : mi_arr n D A = some (0, m)) (hm : m ≤ 100000) (hb : bC_lo D A ≤ 0 ∧ 0 ≤ bC_hi D A) (hC : bC D c) : tt Zi d 13 (0, [some (.inr (.inl A)), some (.inl 0), none, none], [], n, D, s, p, c) (fun R H => ∃ c1 : Nat → Nat → Int, R = .inl none ∧ H = (n, D, s, p, c1) ∧ bC D c1 ∧ ∃ f : Nat → Int, c1 = uc c A f ∧ ∀ j : Nat, j < m → f j = 0) := by
  refine tt_k 3 (S' := (3, [some (.inr (.inl A)), some (.inl 0), some (.inl 0), none], [.inr (.inl A)], n, D, s, p, c)) rfl ?_
  refine tt_len (m := m) rfl ha rfl ?_
  refine tt_k 1 (S' := (5, [some (.inr (.inl A)), some (.inl 0), some (.inl 0), some (.inl (m : Int))], [], n, D, s, p, c)) rfl ?_
  refine g_fill_L (c := c) ha hm hb ?_ _ 0 c (c A) (by omega) (by omega) hC uc_id.symm (fun j hj => absurd hj (by omega)) (Nat.lt_succ_self _)
  intro c1 f hC1 he hf
  exact tt_rtv rfl rfl ⟨c1, rfl, rfl, hC1, f, he, hf⟩
end GFL
