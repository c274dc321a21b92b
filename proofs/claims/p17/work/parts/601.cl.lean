/-! steps of the class's methods: what a row holds is known by its bounds alone -/
section MCL
variable {Zi : Nat → Option (Nat × (Nat → Int))} {d M pc len : Nat} {ls : List (Option mi_V)} {st : List mi_V} {n : Nat} {D : Nat → Nat × Nat} {s : Nat → Int} {p : Nat → Nat} {c : Nat → Nat → Int} {Q : mi_Rs → mi_H → Prop} {a m : Nat} {i x lo hi : Int}
theorem tt_ilb (hk : mm_kT M pc = some (.iaload, len)) (ha : mi_arr n D a = some (0, m)) (hi' : 0 ≤ i ∧ i < m ∧ i ≤ 2147483647) (hC : bC D c) (hb : bC_lo D a = lo ∧ bC_hi D a = hi) (g : ∀ v, (lo ≤ v ∧ v ≤ hi) → c a i.toNat = v → tt Zi d M (pc + 1, ls, .inl v :: st, n, D, s, p, c) Q) : tt Zi d M (pc, ls, .inl i :: .inr (.inl a) :: st, n, D, s, p, c) Q := by
  have h := hC a i.toNat
  rw [hb.1, hb.2] at h
  exact tt_ild hk ha hi' (g _ h rfl)
theorem tt_blb (hk : mm_kT M pc = some (.baload, len)) (ha : mi_arr n D a = some (1, m)) (hi' : 0 ≤ i ∧ i < m ∧ i ≤ 2147483647) (hC : bC D c) (hb : bC_lo D a = lo ∧ bC_hi D a = hi) (g : ∀ v, (lo ≤ v ∧ v ≤ hi) → c a i.toNat = v → tt Zi d M (pc + 1, ls, .inl v :: st, n, D, s, p, c) Q) : tt Zi d M (pc, ls, .inl i :: .inr (.inl a) :: st, n, D, s, p, c) Q := by
  have h := hC a i.toNat
  rw [hb.1, hb.2] at h
  exact tt_bld hk ha hi' (g _ h rfl)
theorem tt_isb (hk : mm_kT M pc = some (.iastore, len)) (ha : mi_arr n D a = some (0, m)) (hi' : 0 ≤ i ∧ i < m ∧ i ≤ 2147483647) (hC : bC D c) (hb : bC_lo D a = lo ∧ bC_hi D a = hi) (hx : lo ≤ x ∧ x ≤ hi) (g : ∀ c1, bC D c1 → c1 = uc c a (ua (c a) i.toNat x) → tt Zi d M (pc + 1, ls, st, n, D, s, p, c1) Q) : tt Zi d M (pc, ls, .inl x :: .inl i :: .inr (.inl a) :: st, n, D, s, p, c) Q :=
  tt_ist hk ha hi' (g _ (bC_st hC (by rw [hb.1, hb.2]; exact hx)) rfl)
theorem tt_bsb (hk : mm_kT M pc = some (.bastore, len)) (ha : mi_arr n D a = some (1, m)) (hi' : 0 ≤ i ∧ i < m ∧ i ≤ 2147483647) (hC : bC D c) (hb : bC_lo D a = lo ∧ bC_hi D a = hi) (hl : lo = -128 ∧ hi = 127) (g : ∀ c1, bC D c1 → c1 = uc c a (ua (c a) i.toNat (mi_nb x)) → tt Zi d M (pc + 1, ls, st, n, D, s, p, c1) Q) : tt Zi d M (pc, ls, .inl x :: .inl i :: .inr (.inl a) :: st, n, D, s, p, c) Q :=
  tt_bst hk ha hi' (g _ (bC_st hC (by rw [hb.1, hb.2, hl.1, hl.2]; exact mi_nb_bd x)) rfl)
theorem tt_nwb {t : ArrayType} {k : Nat} (hk : mm_kT M pc = some (.newarray t, len)) (ht : mi_tg t = some k) (hx : 0 ≤ x ∧ x ≤ 60000000 ∧ 48 + n < 1000000) (hC : bC D c) (g : ∀ c1, bC (ud D (48 + n) (k, x.toNat)) c1 → c1 = uc c (48 + n) (fun _ => 0) → tt Zi d M (pc + 2, ls, .inr (.inl (48 + n)) :: st, n + 1, ud D (48 + n) (k, x.toNat), s, p, c1) Q) : tt Zi d M (pc, ls, .inl x :: st, n, D, s, p, c) Q :=
  tt_nwa hk ht hx (g _ (bC_nw hC) rfl)
theorem tt_ax {x : Nat} {H : mi_H} (h : mm_hand M pc x = none) (g : Q (.inr x) H) : tt_aft Zi d M pc ls st Q (.inr x) H := by
  unfold tt_aft
  simp only [h]
  exact g
theorem va_bd {f g : Nat → Int} {sp dp k : Nat} (hf : ∀ j, lo ≤ f j ∧ f j ≤ hi) (hg : ∀ j, lo ≤ g j ∧ g j ≤ hi) (j : Nat) : lo ≤ va_cpy f g sp dp k j ∧ va_cpy f g sp dp k j ≤ hi := by
  unfold va_cpy
  split
  · exact hf _
  · exact hg _
/-- a stretch of one row into another of the same kind -/
theorem tt_cpb {ix q q2 t n0 n1 b : Nat} {tg : List (Nat × Nat × List Nat)} {k dp sp : Int} (hk : mm_kT M pc = some (.invokestatic ix, len)) (hi' : mm_lk (mm_ip (mm_mt M).2.1) ix = some (13, q, q2, tg)) (ha : mi_arr n D a = some (t, n0)) (hb : mi_arr n D b = some (t, n1)) (ht : t < 2) (hc : mi_cats st ≤ 8) (hr : 0 ≤ sp ∧ 0 ≤ dp ∧ 0 ≤ k ∧ sp + k ≤ n0 ∧ dp + k ≤ n1 ∧ k ≤ 1000000 ∧ sp ≤ 1000000 ∧ dp ≤ 1000000) (hC : bC D c) (hA : bC_lo D a = lo ∧ bC_hi D a = hi) (hB : bC_lo D b = lo ∧ bC_hi D b = hi) (hl : t = 0 ∨ (lo = -128 ∧ hi = 127)) (g : ∀ c1, bC D c1 → c1 = uc c b (va_cpy (c a) (c b) sp.toNat dp.toNat k.toNat) → tt Zi d M (pc + 3, ls, st, n, D, s, p, c1) Q) : tt Zi d M (pc, ls, .inl k :: .inl dp :: .inr (.inl b) :: .inl sp :: .inr (.inl a) :: st, n, D, s, p, c) Q := by
  have h1 : ∀ j, lo ≤ c a j ∧ c a j ≤ hi := fun j => by have h := hC a j; rw [hA.1, hA.2] at h; exact h
  have h2 : ∀ j, lo ≤ c b j ∧ c b j ≤ hi := fun j => by have h := hC b j; rw [hB.1, hB.2] at h; exact h
  refine tt_cpy hk hi' ha hb ht hc hr ?_ (g _ (bC_uc hC (fun j => by rw [hB.1, hB.2]; exact va_bd h1 h2 j)) rfl)
  rcases hl with h | ⟨rfl, rfl⟩
  · exact Or.inl h
  · exact Or.inr (fun j _ => h1 _)
end MCL
theorem wp_q {g : Nat → Int} {q q' n : Nat} {D : Nat → Nat × Nat} {p : Nat → Nat} {s : Nat → Int} (h : wp q g n D p s) (hq : q ≤ q') : wp q' g n D p s := by
  obtain ⟨k4, k6, e4, e6, b4, b6, hn, ht⟩ := h.nb
  exact ⟨⟨k4, k6, e4, e6, b4, b6, by omega, ht⟩, h.2⟩
theorem cW_mono {g : Nat → Int} {q q' : Nat} {H : mi_H} (h : cW q g H) (hq : q ≤ q') : cW q' g H := ⟨h.1, h.2.1, wp_q h.2.2 hq⟩
theorem pw64 {k : Nat} (h : k ≤ 12) : 1 ≤ 2 ^ k ∧ 2 ^ k ≤ 4096 := ⟨Nat.one_le_two_pow, Nat.pow_le_pow_right (by decide) h⟩
theorem wp_l4 {g : Nat → Int} {q n : Nat} {D : Nat → Nat × Nat} {p : Nat → Nat} {s : Nat → Int} (h : wp q g n D p s) : 64 ≤ ln D (p 400) ∧ ln D (p 400) ≤ 262144 := by
  obtain ⟨k4, k6, e4, e6, b4, b6, hn, ht⟩ := h.nb
  have := pw64 b4
  omega
theorem wp_l6 {g : Nat → Int} {q n : Nat} {D : Nat → Nat × Nat} {p : Nat → Nat} {s : Nat → Int} (h : wp q g n D p s) : 64 ≤ ln D (p 600) ∧ ln D (p 600) ≤ 262144 := by
  obtain ⟨k4, k6, e4, e6, b4, b6, hn, ht⟩ := h.nb
  have := pw64 b6
  omega
