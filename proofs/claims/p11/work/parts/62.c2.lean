/-! the class's memory -/
theorem wp_sw9 {g : Nat → Int} {q n : Nat} {D : Nat → Nat × Nat} {p : Nat → Nat} {s : Nat → Int} (h : wp q g n D p s) : wp q g n D (up (up p 900 (p 901)) 901 (p 900)) s := ⟨h.nb, h.dz, h.r4, h.r6, h.c4, h.c6, h.p1, h.p25, h.p27, h.w1, h.w25, h.w27, sw_sy h.m9, h.a12, h.a21, h.pp, h.s12, h.s21, h.wo, h.gz⟩
theorem wp_sw12 {g : Nat → Int} {q n : Nat} {D : Nat → Nat × Nat} {p : Nat → Nat} {s : Nat → Int} (h : wp q g n D p s) : wp q g n D (up (up p 1203 (p 1204)) 1204 (p 1203)) s := ⟨h.nb, h.dz, h.r4, h.r6, h.c4, h.c6, h.p1, h.p25, h.p27, h.w1, h.w25, h.w27, h.m9, sw_sy h.a12, h.a21, h.pp, h.s12, h.s21, h.wo, h.gz⟩
theorem wp_sw21 {g : Nat → Int} {q n : Nat} {D : Nat → Nat × Nat} {p : Nat → Nat} {s : Nat → Int} (h : wp q g n D p s) : wp q g n D (up (up p 2103 (p 2104)) 2104 (p 2103)) s := ⟨h.nb, h.dz, h.r4, h.r6, h.c4, h.c6, h.p1, h.p25, h.p27, h.w1, h.w25, h.w27, h.m9, h.a12, sw_sy h.a21, h.pp, h.s12, h.s21, h.wo, h.gz⟩
section GFL
variable {Zi : Nat → Option (Nat × (Nat → Int))} {d n : Nat} {D : Nat → Nat × Nat} {s : Nat → Int} {p : Nat → Nat} {c : Nat → Nat → Int} {A m : Nat}
theorem g_fill_L {Q : mi_Rs → mi_H → Prop} (ha : mi_arr n D A = some (0, m)) (hm : m ≤ 100000) (hb : bC_lo D A ≤ 0 ∧ 0 ≤ bC_hi D A) (hK : ∀ c1 f, bC D c1 → c1 = uc c A f → (∀ j : Nat, j < m → f j = 0) → tt Zi d 13 (20, [some (.inr (.inl A)), some (.inl 0), some (.inl (m : Int)), some (.inl (m : Int))], [], n, D, s, p, c1) Q) : ∀ (k : Nat) (i : Int) (c1 : Nat → Nat → Int) (f : Nat → Int), 0 ≤ i → i ≤ m → bC D c1 → c1 = uc c A f → (∀ j : Nat, (j : Int) < i → f j = 0) → ((m : Int) - i).toNat < k → tt Zi d 13 (5, [some (.inr (.inl A)), some (.inl 0), some (.inl i), some (.inl (m : Int))], [], n, D, s, p, c1) Q := by
  intro k
  induction k with
  | zero => intro i c1 f _ _ _ _ _ h; exact absurd h (by omega)
  | succ k ih =>
    intro i c1 f h0 h1 hC he hf hk
    refine tt_k 2 (S' := (7, [some (.inr (.inl A)), some (.inl 0), some (.inl i), some (.inl (m : Int))], [.inl (m : Int), .inl i], n, D, s, p, c1)) rfl ?_
    refine tb_ge (x := i) (y := (m : Int)) rfl rfl (by omega) (fun h => ?_) (fun h => ?_)
    · have e : i = m := by omega
      rw [e]
      exact hK c1 f hC he (fun j hj => hf j (by omega))
    · show tt Zi d 13 (10, [some (.inr (.inl A)), some (.inl 0), some (.inl i), some (.inl (m : Int))], [], n, D, s, p, c1) Q
      refine tt_k 3 (S' := (13, [some (.inr (.inl A)), some (.inl 0), some (.inl i), some (.inl (m : Int))], [.inl 0, .inl i, .inr (.inl A)], n, D, s, p, c1)) rfl ?_
      refine tt_ist (i := i) (x := 0) rfl ha (by omega) ?_
      refine tt_k 2 (S' := (5, [some (.inr (.inl A)), some (.inl 0), some (.inl (i + 1)), some (.inl (m : Int))], [], n, D, s, p, uc c1 A (ua (c1 A) i.toNat 0))) rfl ?_
      exact ih (i + 1) _ (ua f i.toNat 0) (by omega) (by omega) (bC_st hC hb) (by rw [he, uc_uc, uc_eq]) (ua_all hf h0) (by omega)
theorem g_fill (ha : mi_arr n D A = some (0, m)) (hm : m ≤ 100000) (hb : bC_lo D A ≤ 0 ∧ 0 ≤ bC_hi D A) (hC : bC D c) : tt Zi d 13 (0, [some (.inr (.inl A)), some (.inl 0), none, none], [], n, D, s, p, c) (fun R H => ∃ c1 : Nat → Nat → Int, R = .inl none ∧ H = (n, D, s, p, c1) ∧ bC D c1 ∧ ∃ f : Nat → Int, c1 = uc c A f ∧ ∀ j : Nat, j < m → f j = 0) := by
  refine tt_k 3 (S' := (3, [some (.inr (.inl A)), some (.inl 0), some (.inl 0), none], [.inr (.inl A)], n, D, s, p, c)) rfl ?_
  refine tt_len (m := m) rfl ha rfl ?_
  refine tt_k 1 (S' := (5, [some (.inr (.inl A)), some (.inl 0), some (.inl 0), some (.inl (m : Int))], [], n, D, s, p, c)) rfl ?_
  refine g_fill_L (c := c) ha hm hb ?_ _ 0 c (c A) (by omega) (by omega) hC uc_id.symm (fun j hj => absurd hj (by omega)) (Nat.lt_succ_self _)
  intro c1 f hC1 he hf
  exact tt_rtv rfl rfl ⟨c1, rfl, rfl, hC1, f, he, hf⟩
end GFL
set_option maxRecDepth 100000 in
set_option maxHeartbeats 4000000 in
theorem g_begin_L22 {g : Nat → Int} {Zi : Nat → Option (Nat × (Nat → Int))} {d n q : Nat} {D : Nat → Nat × Nat} {s : Nat → Int} {p : Nat → Nat} {c : Nat → Nat → Int} {o_1 : Option mi_V} {Q : mi_Rs → mi_H → Prop} (hd : 1 ≤ d) (hz : zk Zi) (hq : q + 2 ≤ 400001) (hD : wd n p) (hS : bS s) (hC : bC D c) (hW : wp q g n D p s) (f_ : Int) (b_f_ : 0 ≤ f_ ∧ f_ ≤ 65536)
  (hK : ∀ (i : Int) (c0 : Nat → Nat → Int) (b_i : 0 ≤ i ∧ i ≤ 367) (hC0 : bC D c0) (hK0 : fk p c n p c0 [901]), (True) → tt Zi d 33 (57, [some (.inr (.inl 9)), o_1, some (.inl f_), some (.inl i)], [], n, D, s, p, c0) Q) :
  ∀ (m : Nat) (i : Int) (c0 : Nat → Nat → Int) (b_i : 0 ≤ i ∧ i ≤ 367) (hC0 : bC D c0) (hK0 : fk p c n p c0 [901]), (367 - i).toNat < m → tt Zi d 33 (22, [some (.inr (.inl 9)), o_1, some (.inl f_), some (.inl i)], [], n, D, s, p, c0) Q := by
  intro m
  induction m with
  | zero => intro i c0 b_i hC0 hK0 hm; exact absurd hm (by omega)
  | succ m ih =>
    intro i c0 b_i hC0 hK0 hm
    refine tt_k 2 (S' := (26, [some (.inr (.inl 9)), o_1, some (.inl f_), some (.inl i)], [.inl 367, .inl i], n, D, s, p, c0)) rfl ?_
    refine tb_ge (x := i) (y := 367) rfl rfl (by omega) (fun h1 => ?_) (fun h1 => ?_)
    · show tt Zi d 33 (57, [some (.inr (.inl 9)), o_1, some (.inl f_), some (.inl i)], [], n, D, s, p, c0) _
      exact hK i c0 (by omega) hC0 hK0 trivial
    · show tt Zi d 33 (29, [some (.inr (.inl 9)), o_1, some (.inl f_), some (.inl i)], [], n, D, s, p, c0) _
      refine tt_k 8 (S' := (39, [some (.inr (.inl 9)), o_1, some (.inl f_), some (.inl i)], [.inl f_, .inl ((4 * i) + 0), .inr (.inl (p 901))], n, D, s, p, c0)) rfl ?_
      refine tt_isb (i := ((4 * i) + 0)) (m := 1468) (lo := -2147483648) (hi := 2147483647) (x := f_) rfl ((sw_arr (hW).m9 rfl rfl).2) (by omega) hC0 ((sw_now (hW).m9).2) (by omega) ?_
      intro c2 hC2 ec2
      show tt Zi d 33 (40, [some (.inr (.inl 9)), o_1, some (.inl f_), some (.inl i)], [], n, D, s, p, c2) _
      have FK3 : fk p c n p c2 [901] := fk_st (k := 901) hK0 ec2 (by decide) rfl
      refine tt_k 8 (S' := (50, [some (.inr (.inl 9)), o_1, some (.inl f_), some (.inl i)], [.inl 1, .inl ((4 * i) + 3), .inr (.inl (p 901))], n, D, s, p, c2)) rfl ?_
      refine tt_isb (i := ((4 * i) + 3)) (m := 1468) (lo := -2147483648) (hi := 2147483647) (x := 1) rfl ((sw_arr (hW).m9 rfl rfl).2) (by omega) hC2 ((sw_now (hW).m9).2) (by omega) ?_
      intro c4 hC4 ec4
      show tt Zi d 33 (51, [some (.inr (.inl 9)), o_1, some (.inl f_), some (.inl i)], [], n, D, s, p, c4) _
      have FK5 : fk p c n p c4 [901] := fk_st (k := 901) FK3 ec4 (by decide) rfl
      refine tt_k 2 (S' := (22, [some (.inr (.inl 9)), o_1, some (.inl f_), some (.inl (i + 1))], [], n, D, s, p, c4)) rfl ?_
      exact ih (i + 1) c4 (by omega) hC4 FK5 (show (367 - (i + 1)).toNat < m by omega)
set_option maxRecDepth 100000 in
set_option maxHeartbeats 4000000 in
theorem g_begin {g : Nat → Int} {Zi : Nat → Option (Nat × (Nat → Int))} {d n q : Nat} {D : Nat → Nat × Nat} {s : Nat → Int} {p : Nat → Nat} {c : Nat → Nat → Int} (hd : 1 ≤ d) (hz : zk Zi) (hq : q + 2 ≤ 400000) (hD : wd n p) (hS : bS s) (hC : bC D c) (hW : wp q g n D p s) (v : Int) (b_v : 0 ≤ v ∧ v ≤ 65536) : tt Zi d 33 (0, [some (.inr (.inl 9)), some (.inl v), none, none], [], n, D, s, p, c) (fun R H => ∃ (s' : Nat → Int) (c' : Nat → Nat → Int), R = .inl none ∧ H = (n, D, s', p, c') ∧ bS s' ∧ bC D c' ∧ wp q g n D p s' ∧ fr s s' [902] ∧ fk p c n p c' [901]) := by
  refine tt_k 5 (S' := (7, [some (.inr (.inl 9)), some (.inl v), none, none], [.inl 64, .inl (v + 32), .inl 2], n, D, s, p, c)) rfl ?_
  refine tt_dvp (x := (v + 32)) (y := 64) rfl (by omega) ?_
  show tt Zi d 33 (8, [some (.inr (.inl 9)), some (.inl v), none, none], [.inl ((v + 32) / 64), .inl 2], n, D, s, p, c) _
  refine tt_max (k := 0) (x := 2) (y := ((v + 32) / 64)) rfl rfl (Nat.le_of_ble_eq_true rfl) (by omega) ?_
  refine tt_k 4 (S' := (17, [some (.inr (.inl 9)), some (.inl v), some (.inl ((max 2 ((v + 32) / 64)))), none], [.inl 0, .inr (.inl (p 901))], n, D, s, p, c)) rfl ?_
  refine tt_cl (by omega) rfl (g_fill (A := (p 901)) (m := 1468) (s := s) (p := p) ((sw_arr (hW).m9 rfl rfl).2) (by omega) (by rw [(show bC_lo D (p 901) = -2147483648 ∧ bC_hi D (p 901) = 2147483647 from ((sw_now (hW).m9).2)).1, (show bC_lo D (p 901) = -2147483648 ∧ bC_hi D (p 901) = 2147483647 from ((sw_now (hW).m9).2)).2]; decide) hC) ?_
  rintro _ _ ⟨c1, rfl, rfl, hC1, fc1, ec1, zc1⟩
  show tt Zi d 33 (20, [some (.inr (.inl 9)), some (.inl v), some (.inl ((max 2 ((v + 32) / 64)))), none], [], n, D, s, p, c1) _
  have FK2 : fk p c n p c1 [901] := fk_st (k := 901) (fk_rf hD) ec1 (by decide) rfl
  refine tt_k 2 (S' := (22, [some (.inr (.inl 9)), some (.inl v), some (.inl ((max 2 ((v + 32) / 64)))), some (.inl 0)], [], n, D, s, p, c1)) rfl ?_
  refine g_begin_L22 (Zi := Zi) (q := q) (n := n) (D := D) (s := s) (p := p) (c := c1) hd hz (by omega) FK2.1 hS hC1 hW  ((max 2 ((v + 32) / 64))) (by omega)   ?_ _ 0 c1 (by omega) hC1 (fk_rf FK2.1) (Nat.lt_succ_self _)
  intro x3 c4 b5 hC4 kf6 hx7
  show tt Zi d 33 (57, [some (.inr (.inl 9)), some (.inl v), some (.inl ((max 2 ((v + 32) / 64)))), some (.inl x3)], [], n, D, s, p, c4) _
  have FK8 : fk p c n p c4 [901] := fk_tr FK2 kf6 (by decide)
  refine tt_k 3 (S' := (62, [some (.inr (.inl 9)), some (.inl v), some (.inl ((max 2 ((v + 32) / 64)))), some (.inl x3)], [], n, D, (us s 902 0), p, c4)) rfl ?_
  exact tt_rtv rfl rfl ⟨(us s 902 0), c4, rfl, rfl, (bS_us hS (show 0 ≤ 0 ∧ 0 ≤ 31 by omega)), hC4, (wp_us (by decide) hW), (fr_us (by decide) fr_rf), FK8⟩
set_option maxRecDepth 100000 in
set_option maxHeartbeats 4000000 in
theorem g_correction {g : Nat → Int} {Zi : Nat → Option (Nat × (Nat → Int))} {d n q : Nat} {D : Nat → Nat × Nat} {s : Nat → Int} {p : Nat → Nat} {c : Nat → Nat → Int} (hd : 0 ≤ d) (hz : zk Zi) (hq : q + 0 ≤ 400000) (hD : wd n p) (hS : bS s) (hC : bC D c) (hW : wp q g n D p s) (pl : Int) (b_pl : 0 ≤ pl ∧ pl ≤ 366) : tt Zi d 39 (0, [some (.inr (.inl 9)), some (.inl pl)], [], n, D, s, p, c) (fun R H => ∃ (r : Int), R = .inl (some (.inl r)) ∧ H = (n, D, s, p, c) ∧ (-2147483648 ≤ r ∧ r ≤ 2147483647)) := by
  refine tt_k 7 (S' := (9, [some (.inr (.inl 9)), some (.inl pl)], [.inl ((4 * pl) + 2), .inr (.inl (p 901))], n, D, s, p, c)) rfl ?_
  refine tt_ilb (i := ((4 * pl) + 2)) (m := 1468) (lo := -2147483648) (hi := 2147483647) rfl ((sw_arr (hW).m9 rfl rfl).2) (by omega) hC ((sw_now (hW).m9).2) ?_
  intro v1 b2 hvv1
  show tt Zi d 39 (10, [some (.inr (.inl 9)), some (.inl pl)], [.inl v1], n, D, s, p, c) _
  exact tt_rti rfl rfl ⟨v1, rfl, rfl, by omega⟩
set_option maxRecDepth 100000 in
set_option maxHeartbeats 4000000 in
theorem g_lowBits_L38 {g : Nat → Int} {Zi : Nat → Option (Nat × (Nat → Int))} {d n q : Nat} {D : Nat → Nat × Nat} {s : Nat → Int} {p : Nat → Nat} {c : Nat → Nat → Int} {o_1 : Option mi_V} {o_2 : Option mi_V} {Q : mi_Rs → mi_H → Prop} (hd : 0 ≤ d) (hz : zk Zi) (hq : q + 0 ≤ 400001) (hD : wd n p) (hS : bS s) (hC : bC D c) (hW : wp q g n D p s) (n_ : Int) (a_ : Int) (b_n_ : -2147483648 ≤ n_ ∧ n_ ≤ 2147483647) (b_a_ : -2147483648 ≤ a_ ∧ a_ ≤ 2147483647)
  (hK : ∀ (k : Int) (b_k : 0 ≤ k ∧ k ≤ 30), (True) → tt Zi d 41 (60, [some (.inr (.inl 9)), o_1, o_2, some (.inl n_), some (.inl a_), some (.inl k)], [], n, D, s, p, c) Q) :
  ∀ (m : Nat) (k : Int) (b_k : 0 ≤ k ∧ k ≤ 30), (30 - k).toNat < m → tt Zi d 41 (38, [some (.inr (.inl 9)), o_1, o_2, some (.inl n_), some (.inl a_), some (.inl k)], [], n, D, s, p, c) Q := by
  intro m
  induction m with
  | zero => intro k b_k hm; exact absurd hm (by omega)
  | succ m ih =>
    intro k b_k hm
    refine tt_k 2 (S' := (42, [some (.inr (.inl 9)), o_1, o_2, some (.inl n_), some (.inl a_), some (.inl k)], [.inl 30, .inl k], n, D, s, p, c)) rfl ?_
    refine tb_ge (x := k) (y := 30) rfl rfl (by omega) (fun h1 => ?_) (fun h1 => ?_)
    · show tt Zi d 41 (60, [some (.inr (.inl 9)), o_1, o_2, some (.inl n_), some (.inl a_), some (.inl k)], [], n, D, s, p, c) _
      exact hK k (by omega) trivial
    · show tt Zi d 41 (45, [some (.inr (.inl 9)), o_1, o_2, some (.inl n_), some (.inl a_), some (.inl k)], [], n, D, s, p, c) _
      refine tt_k 4 (S' := (51, [some (.inr (.inl 9)), o_1, o_2, some (.inl n_), some (.inl a_), some (.inl k)], [.inl a_, .inl (mi_shl n_ k)], n, D, s, p, c)) rfl ?_
      have e2 := mi_shl_bd n_ k
      refine tb_ge (x := (mi_shl n_ k)) (y := a_) rfl rfl (by omega) (fun h3 => ?_) (fun h3 => ?_)
      · show tt Zi d 41 (60, [some (.inr (.inl 9)), o_1, o_2, some (.inl n_), some (.inl a_), some (.inl k)], [], n, D, s, p, c) _
        exact hK k (by omega) trivial
      · show tt Zi d 41 (54, [some (.inr (.inl 9)), o_1, o_2, some (.inl n_), some (.inl a_), some (.inl k)], [], n, D, s, p, c) _
        refine tt_k 2 (S' := (38, [some (.inr (.inl 9)), o_1, o_2, some (.inl n_), some (.inl a_), some (.inl (k + 1))], [], n, D, s, p, c)) rfl ?_
        exact ih (k + 1) (by omega) (show (30 - (k + 1)).toNat < m by omega)
set_option maxRecDepth 100000 in
set_option maxHeartbeats 4000000 in
theorem g_lowBits {g : Nat → Int} {Zi : Nat → Option (Nat × (Nat → Int))} {d n q : Nat} {D : Nat → Nat × Nat} {s : Nat → Int} {p : Nat → Nat} {c : Nat → Nat → Int} (hd : 0 ≤ d) (hz : zk Zi) (hq : q + 0 ≤ 400000) (hD : wd n p) (hS : bS s) (hC : bC D c) (hW : wp q g n D p s) (pl : Int) (hm : Int) (b_pl : 0 ≤ pl ∧ pl ≤ 366) (b_hm : 0 ≤ hm ∧ hm ≤ 1) : tt Zi d 41 (0, [some (.inr (.inl 9)), some (.inl pl), some (.inl hm), none, none, none], [], n, D, s, p, c) (fun R H => ∃ (r : Int), R = .inl (some (.inl r)) ∧ H = (n, D, s, p, c) ∧ (0 ≤ r ∧ r ≤ 30)) := by
  refine tt_k 7 (S' := (9, [some (.inr (.inl 9)), some (.inl pl), some (.inl hm), none, none, none], [.inl ((4 * pl) + 3), .inr (.inl (p 901))], n, D, s, p, c)) rfl ?_
  refine tt_ilb (i := ((4 * pl) + 3)) (m := 1468) (lo := -2147483648) (hi := 2147483647) rfl ((sw_arr (hW).m9 rfl rfl).2) (by omega) hC ((sw_now (hW).m9).2) ?_
  intro v1 b2 hvv1
  show tt Zi d 41 (10, [some (.inr (.inl 9)), some (.inl pl), some (.inl hm), none, none, none], [.inl v1], n, D, s, p, c) _
  refine tt_k 8 (S' := (20, [some (.inr (.inl 9)), some (.inl pl), some (.inl hm), some (.inl v1), none, none], [.inl ((4 * pl) + 0), .inr (.inl (p 901))], n, D, s, p, c)) rfl ?_
  refine tt_ilb (i := ((4 * pl) + 0)) (m := 1468) (lo := -2147483648) (hi := 2147483647) rfl ((sw_arr (hW).m9 rfl rfl).2) (by omega) hC ((sw_now (hW).m9).2) ?_
  intro v3 b4 hvv3
  show tt Zi d 41 (21, [some (.inr (.inl 9)), some (.inl pl), some (.inl hm), some (.inl v1), none, none], [.inl v3], n, D, s, p, c) _
  refine tt_k 1 (S' := (22, [some (.inr (.inl 9)), some (.inl pl), some (.inl hm), some (.inl v1), none, none], [.inl hm, .inl v3], n, D, s, p, c)) rfl ?_
  have K6 : ∀ (j5 : Int) , (-2147483648 ≤ j5 ∧ j5 ≤ 2147483648) → (True) → tt Zi d 41 (32, [some (.inr (.inl 9)), some (.inl pl), some (.inl hm), some (.inl v1), none, none], [.inl j5, .inl v3], n, D, s, p, c) (fun R H => ∃ (r : Int), R = .inl (some (.inl r)) ∧ H = (n, D, s, p, c) ∧ (0 ≤ r ∧ r ≤ 30)) := by
    intro j5 b8 hj7
    refine tt_k 1 (S' := (33, [some (.inr (.inl 9)), some (.inl pl), some (.inl hm), some (.inl v1), none, none], [.inl (v3 + j5)], n, D, s, p, c)) rfl ?_
    refine tt_wm (x := (v3 + j5)) ?_
    intro v9 b10 w11
    show tt Zi d 41 (33, [some (.inr (.inl 9)), some (.inl pl), some (.inl hm), some (.inl v1), none, none], [.inl v9], n, D, s, p, c) _
    refine tt_k 3 (S' := (38, [some (.inr (.inl 9)), some (.inl pl), some (.inl hm), some (.inl v1), some (.inl v9), some (.inl 0)], [], n, D, s, p, c)) rfl ?_
    refine g_lowBits_L38 (Zi := Zi) (q := q) (n := n) (D := D) (s := s) (p := p) (c := c) hd hz (by omega) hD hS hC hW  v1 v9 (by omega) (by omega)   ?_ _ 0 (by omega) (Nat.lt_succ_self _)
    intro x12 b13 hx14
    show tt Zi d 41 (60, [some (.inr (.inl 9)), some (.inl pl), some (.inl hm), some (.inl v1), some (.inl v9), some (.inl x12)], [], n, D, s, p, c) _
    refine tt_k 1 (S' := (62, [some (.inr (.inl 9)), some (.inl pl), some (.inl hm), some (.inl v1), some (.inl v9), some (.inl x12)], [.inl x12], n, D, s, p, c)) rfl ?_
    exact tt_rti rfl rfl ⟨x12, rfl, rfl, by omega⟩
  refine tz_eq (x := hm) rfl rfl (by omega) (fun h15 => ?_) (fun h15 => ?_)
  · show tt Zi d 41 (31, [some (.inr (.inl 9)), some (.inl pl), some (.inl hm), some (.inl v1), none, none], [.inl v3], n, D, s, p, c) _
    refine tt_k 1 (S' := (32, [some (.inr (.inl 9)), some (.inl pl), some (.inl hm), some (.inl v1), none, none], [.inl 0, .inl v3], n, D, s, p, c)) rfl ?_
    exact K6 0  (by omega) (trivial)
  · show tt Zi d 41 (25, [some (.inr (.inl 9)), some (.inl pl), some (.inl hm), some (.inl v1), none, none], [.inl v3], n, D, s, p, c) _
    refine tt_k 2 (S' := (27, [some (.inr (.inl 9)), some (.inl pl), some (.inl hm), some (.inl v1), none, none], [.inl 2, .inl v1, .inl v3], n, D, s, p, c)) rfl ?_
    refine tt_div (x := v1) (y := 2) rfl (by omega) ?_
    show tt Zi d 41 (28, [some (.inr (.inl 9)), some (.inl pl), some (.inl hm), some (.inl v1), none, none], [.inl (Int.tdiv v1 2), .inl v3], n, D, s, p, c) _
    have b16 := tdv_bd (x := v1) (y := 2) (a := 2147483648) (by omega) (by omega) (by omega)
    refine tt_k 1 (S' := (32, [some (.inr (.inl 9)), some (.inl pl), some (.inl hm), some (.inl v1), none, none], [.inl (Int.tdiv v1 2), .inl v3], n, D, s, p, c)) rfl ?_
    exact K6 (Int.tdiv v1 2)  (by omega) (trivial)
set_option maxRecDepth 100000 in
set_option maxHeartbeats 4000000 in
theorem g_leansLow {g : Nat → Int} {Zi : Nat → Option (Nat × (Nat → Int))} {d n q : Nat} {D : Nat → Nat × Nat} {s : Nat → Int} {p : Nat → Nat} {c : Nat → Nat → Int} (hd : 0 ≤ d) (hz : zk Zi) (hq : q + 0 ≤ 400000) (hD : wd n p) (hS : bS s) (hC : bC D c) (hW : wp q g n D p s) (pl : Int) (b_pl : 0 ≤ pl ∧ pl ≤ 366) : tt Zi d 42 (0, [some (.inr (.inl 9)), some (.inl pl)], [], n, D, s, p, c) (fun R H => ∃ (r : Int), R = .inl (some (.inl r)) ∧ H = (n, D, s, p, c) ∧ (0 ≤ r ∧ r ≤ 1)) := by
  refine tt_k 8 (S' := (10, [some (.inr (.inl 9)), some (.inl pl)], [.inl ((4 * pl) + 1), .inr (.inl (p 901)), .inl 2], n, D, s, p, c)) rfl ?_
  refine tt_ilb (i := ((4 * pl) + 1)) (m := 1468) (lo := -2147483648) (hi := 2147483647) rfl ((sw_arr (hW).m9 rfl rfl).2) (by omega) hC ((sw_now (hW).m9).2) ?_
  intro v1 b2 hvv1
  show tt Zi d 42 (11, [some (.inr (.inl 9)), some (.inl pl)], [.inl v1, .inl 2], n, D, s, p, c) _
  refine tt_k 1 (S' := (12, [some (.inr (.inl 9)), some (.inl pl)], [.inl (2 * v1)], n, D, s, p, c)) rfl ?_
  refine tt_wm (x := (2 * v1)) ?_
  intro v3 b4 w5
  show tt Zi d 42 (12, [some (.inr (.inl 9)), some (.inl pl)], [.inl v3], n, D, s, p, c) _
  refine tt_k 7 (S' := (21, [some (.inr (.inl 9)), some (.inl pl)], [.inl ((4 * pl) + 3), .inr (.inl (p 901)), .inl v3], n, D, s, p, c)) rfl ?_
  refine tt_ilb (i := ((4 * pl) + 3)) (m := 1468) (lo := -2147483648) (hi := 2147483647) rfl ((sw_arr (hW).m9 rfl rfl).2) (by omega) hC ((sw_now (hW).m9).2) ?_
  intro v6 b7 hvv6
  show tt Zi d 42 (22, [some (.inr (.inl 9)), some (.inl pl)], [.inl v6, .inl v3], n, D, s, p, c) _
  refine tt_k 1 (S' := (23, [some (.inr (.inl 9)), some (.inl pl)], [.inl (-v6), .inl v3], n, D, s, p, c)) rfl ?_
  refine tt_wm (x := (-v6)) ?_
  intro v8 b9 w10
  show tt Zi d 42 (23, [some (.inr (.inl 9)), some (.inl pl)], [.inl v8, .inl v3], n, D, s, p, c) _
  refine tb_gt (x := v3) (y := v8) rfl rfl (by omega) (fun h11 => ?_) (fun h11 => ?_)
  · show tt Zi d 42 (30, [some (.inr (.inl 9)), some (.inl pl)], [], n, D, s, p, c) _
    refine tt_k 1 (S' := (31, [some (.inr (.inl 9)), some (.inl pl)], [.inl 0], n, D, s, p, c)) rfl ?_
    exact tt_rtb rfl rfl (by omega) ⟨0, rfl, rfl, by omega⟩
  · show tt Zi d 42 (26, [some (.inr (.inl 9)), some (.inl pl)], [], n, D, s, p, c) _
    refine tt_k 2 (S' := (31, [some (.inr (.inl 9)), some (.inl pl)], [.inl 1], n, D, s, p, c)) rfl ?_
    exact tt_rtb rfl rfl (by omega) ⟨1, rfl, rfl, by omega⟩
set_option maxRecDepth 100000 in
set_option maxHeartbeats 4000000 in
theorem g_isSeldom {g : Nat → Int} {Zi : Nat → Option (Nat × (Nat → Int))} {d n q : Nat} {D : Nat → Nat × Nat} {s : Nat → Int} {p : Nat → Nat} {c : Nat → Nat → Int} (hd : 0 ≤ d) (hz : zk Zi) (hq : q + 0 ≤ 400000) (hD : wd n p) (hS : bS s) (hC : bC D c) (hW : wp q g n D p s) (pl : Int) (b_pl : 0 ≤ pl ∧ pl ≤ 366) : tt Zi d 68 (0, [some (.inr (.inl 9)), some (.inl pl)], [], n, D, s, p, c) (fun R H => ∃ (r : Int), R = .inl (some (.inl r)) ∧ H = (n, D, s, p, c) ∧ (0 ≤ r ∧ r ≤ 1)) := by
  refine tt_k 8 (S' := (10, [some (.inr (.inl 9)), some (.inl pl)], [.inl ((4 * pl) + 1), .inr (.inl (p 901)), .inl 2], n, D, s, p, c)) rfl ?_
  refine tt_ilb (i := ((4 * pl) + 1)) (m := 1468) (lo := -2147483648) (hi := 2147483647) rfl ((sw_arr (hW).m9 rfl rfl).2) (by omega) hC ((sw_now (hW).m9).2) ?_
  intro v1 b2 hvv1
  show tt Zi d 68 (11, [some (.inr (.inl 9)), some (.inl pl)], [.inl v1, .inl 2], n, D, s, p, c) _
  refine tt_k 1 (S' := (12, [some (.inr (.inl 9)), some (.inl pl)], [.inl (2 * v1)], n, D, s, p, c)) rfl ?_
  refine tt_wm (x := (2 * v1)) ?_
  intro v3 b4 w5
  show tt Zi d 68 (12, [some (.inr (.inl 9)), some (.inl pl)], [.inl v3], n, D, s, p, c) _
  refine tt_k 7 (S' := (21, [some (.inr (.inl 9)), some (.inl pl)], [.inl ((4 * pl) + 3), .inr (.inl (p 901)), .inl v3], n, D, s, p, c)) rfl ?_
  refine tt_ilb (i := ((4 * pl) + 3)) (m := 1468) (lo := -2147483648) (hi := 2147483647) rfl ((sw_arr (hW).m9 rfl rfl).2) (by omega) hC ((sw_now (hW).m9).2) ?_
  intro v6 b7 hvv6
  show tt Zi d 68 (22, [some (.inr (.inl 9)), some (.inl pl)], [.inl v6, .inl v3], n, D, s, p, c) _
  refine tb_ge (x := v3) (y := v6) rfl rfl (by omega) (fun h8 => ?_) (fun h8 => ?_)
  · show tt Zi d 68 (29, [some (.inr (.inl 9)), some (.inl pl)], [], n, D, s, p, c) _
    refine tt_k 1 (S' := (30, [some (.inr (.inl 9)), some (.inl pl)], [.inl 0], n, D, s, p, c)) rfl ?_
    exact tt_rtb rfl rfl (by omega) ⟨0, rfl, rfl, by omega⟩
  · show tt Zi d 68 (25, [some (.inr (.inl 9)), some (.inl pl)], [], n, D, s, p, c) _
    refine tt_k 2 (S' := (30, [some (.inr (.inl 9)), some (.inl pl)], [.inl 1], n, D, s, p, c)) rfl ?_
    exact tt_rtb rfl rfl (by omega) ⟨1, rfl, rfl, by omega⟩
set_option maxRecDepth 100000 in
set_option maxHeartbeats 4000000 in
theorem g_runBits {g : Nat → Int} {Zi : Nat → Option (Nat × (Nat → Int))} {d n q : Nat} {D : Nat → Nat × Nat} {s : Nat → Int} {p : Nat → Nat} {c : Nat → Nat → Int} (hd : 0 ≤ d) (hz : zk Zi) (hq : q + 0 ≤ 400000) (hD : wd n p) (hS : bS s) (hC : bC D c) (hW : wp q g n D p s)  : tt Zi d 64 (0, [some (.inr (.inl 9))], [], n, D, s, p, c) (fun R H => ∃ (r : Int), R = .inl (some (.inl r)) ∧ H = (n, D, s, p, c) ∧ (0 ≤ r ∧ r ≤ 15)) := by
  refine tt_k 3 (S' := (7, [some (.inr (.inl 9))], [.inl (s 902), .inr (.inl (1000000 + 3))], n, D, s, p, c)) rfl ?_
  have b1 : 0 ≤ (s 902) ∧ (s 902) ≤ 31 := hS 902
  obtain ⟨f4, hz5, hz5b⟩ := hz.2.2.2.1
  refine tt_stat (j := 3) (i := (s 902)) rfl hz5 (by omega) ?_
  show tt Zi d 64 (8, [some (.inr (.inl 9))], [.inl ((f4 ((s 902)).toNat))], n, D, s, p, c) _
  generalize hvv2 : f4 ((s 902)).toNat = v2
  have b3 : 0 ≤ v2 ∧ v2 ≤ 15 := by rw [← hvv2]; exact hz5b _
  show tt Zi d 64 (8, [some (.inr (.inl 9))], [.inl v2], n, D, s, p, c) _
  exact tt_rti rfl rfl ⟨v2, rfl, rfl, by omega⟩
set_option maxRecDepth 100000 in
set_option maxHeartbeats 4000000 in
theorem g_quicken {g : Nat → Int} {Zi : Nat → Option (Nat × (Nat → Int))} {d n q : Nat} {D : Nat → Nat × Nat} {s : Nat → Int} {p : Nat → Nat} {c : Nat → Nat → Int} (hd : 0 ≤ d) (hz : zk Zi) (hq : q + 0 ≤ 400000) (hD : wd n p) (hS : bS s) (hC : bC D c) (hW : wp q g n D p s)  : tt Zi d 65 (0, [some (.inr (.inl 9))], [], n, D, s, p, c) (fun R H => ∃ (s' : Nat → Int), R = .inl none ∧ H = (n, D, s', p, c) ∧ bS s' ∧ wp q g n D p s' ∧ fr s s' [902]) := by
  refine tt_k 6 (S' := (9, [some (.inr (.inl 9))], [.inl ((s 902) + 1), .inl 31, .inr (.inl 9)], n, D, s, p, c)) rfl ?_
  have b1 : 0 ≤ (s 902) ∧ (s 902) ≤ 31 := hS 902
  refine tt_min (k := 0) (x := 31) (y := ((s 902) + 1)) rfl rfl (Nat.le_of_ble_eq_true rfl) (by omega) ?_
  refine tt_k 1 (S' := (15, [some (.inr (.inl 9))], [], n, D, (us s 902 ((min 31 ((s 902) + 1)))), p, c)) rfl ?_
  exact tt_rtv rfl rfl ⟨(us s 902 ((min 31 ((s 902) + 1)))), rfl, rfl, (bS_us hS (show 0 ≤ (min 31 ((s 902) + 1)) ∧ (min 31 ((s 902) + 1)) ≤ 31 by omega)), (wp_us (by decide) hW), (fr_us (by decide) fr_rf)⟩
set_option maxRecDepth 100000 in
set_option maxHeartbeats 4000000 in
theorem g_slacken {g : Nat → Int} {Zi : Nat → Option (Nat × (Nat → Int))} {d n q : Nat} {D : Nat → Nat × Nat} {s : Nat → Int} {p : Nat → Nat} {c : Nat → Nat → Int} (hd : 0 ≤ d) (hz : zk Zi) (hq : q + 0 ≤ 400000) (hD : wd n p) (hS : bS s) (hC : bC D c) (hW : wp q g n D p s)  : tt Zi d 73 (0, [some (.inr (.inl 9))], [], n, D, s, p, c) (fun R H => ∃ (s' : Nat → Int), R = .inl none ∧ H = (n, D, s', p, c) ∧ bS s' ∧ wp q g n D p s' ∧ fr s s' [902]) := by
  refine tt_k 6 (S' := (8, [some (.inr (.inl 9))], [.inl ((s 902) - 1), .inl 0, .inr (.inl 9)], n, D, s, p, c)) rfl ?_
  have b1 : 0 ≤ (s 902) ∧ (s 902) ≤ 31 := hS 902
  refine tt_max (k := 0) (x := 0) (y := ((s 902) - 1)) rfl rfl (Nat.le_of_ble_eq_true rfl) (by omega) ?_
  refine tt_k 1 (S' := (14, [some (.inr (.inl 9))], [], n, D, (us s 902 ((max 0 ((s 902) - 1)))), p, c)) rfl ?_
  exact tt_rtv rfl rfl ⟨(us s 902 ((max 0 ((s 902) - 1)))), rfl, rfl, (bS_us hS (show 0 ≤ (max 0 ((s 902) - 1)) ∧ (max 0 ((s 902) - 1)) ≤ 31 by omega)), (wp_us (by decide) hW), (fr_us (by decide) fr_rf)⟩
set_option maxRecDepth 100000 in
set_option maxHeartbeats 4000000 in
theorem g_count {g : Nat → Int} {Zi : Nat → Option (Nat × (Nat → Int))} {d n q : Nat} {D : Nat → Nat × Nat} {s : Nat → Int} {p : Nat → Nat} {c : Nat → Nat → Int} (hd : 0 ≤ d) (hz : zk Zi) (hq : q + 0 ≤ 400000) (hD : wd n p) (hS : bS s) (hC : bC D c) (hW : wp q g n D p s) (i : Int) (hv : Int) (b_i : 0 ≤ i ∧ i ≤ 1464) (b_hv : -2147483648 ≤ hv ∧ hv ≤ 2147483647) : tt Zi d 53 (0, [some (.inr (.inl 9)), some (.inl i), some (.inl hv)], [], n, D, s, p, c) (fun R H => ∃ (c' : Nat → Nat → Int), R = .inl none ∧ H = (n, D, s, p, c') ∧ bC D c' ∧ fk p c n p c' [901]) := by
  refine tt_k 5 (S' := (7, [some (.inr (.inl 9)), some (.inl i), some (.inl hv)], [.inl (i + 3), .inr (.inl (p 901))], n, D, s, p, c)) rfl ?_
  refine tt_ilb (i := (i + 3)) (m := 1468) (lo := -2147483648) (hi := 2147483647) rfl ((sw_arr (hW).m9 rfl rfl).2) (by omega) hC ((sw_now (hW).m9).2) ?_
  intro v1 b2 hvv1
  show tt Zi d 53 (8, [some (.inr (.inl 9)), some (.inl i), some (.inl hv)], [.inl v1], n, D, s, p, c) _
  refine tt_k 1 (S' := (9, [some (.inr (.inl 9)), some (.inl i), some (.inl hv)], [.inl hv, .inl v1], n, D, s, p, c)) rfl ?_
  refine tb_ne (x := v1) (y := hv) rfl rfl (by omega) (fun h3 => ?_) (fun h3 => ?_)
  · show tt Zi d 53 (48, [some (.inr (.inl 9)), some (.inl i), some (.inl hv)], [], n, D, s, p, c) _
    refine tt_k 6 (S' := (56, [some (.inr (.inl 9)), some (.inl i), some (.inl hv)], [.inl (i + 3), .inr (.inl (p 901)), .inl (i + 3), .inr (.inl (p 901))], n, D, s, p, c)) rfl ?_
    refine tt_ilb (i := (i + 3)) (m := 1468) (lo := -2147483648) (hi := 2147483647) rfl ((sw_arr (hW).m9 rfl rfl).2) (by omega) hC ((sw_now (hW).m9).2) ?_
    intro v4 b5 hvv4
    show tt Zi d 53 (57, [some (.inr (.inl 9)), some (.inl i), some (.inl hv)], [.inl v4, .inl (i + 3), .inr (.inl (p 901))], n, D, s, p, c) _
    refine tt_k 2 (S' := (59, [some (.inr (.inl 9)), some (.inl i), some (.inl hv)], [.inl (v4 + 1), .inl (i + 3), .inr (.inl (p 901))], n, D, s, p, c)) rfl ?_
    refine tt_wm (x := (v4 + 1)) ?_
    intro v6 b7 w8
    show tt Zi d 53 (59, [some (.inr (.inl 9)), some (.inl i), some (.inl hv)], [.inl v6, .inl (i + 3), .inr (.inl (p 901))], n, D, s, p, c) _
    refine tt_isb (i := (i + 3)) (m := 1468) (lo := -2147483648) (hi := 2147483647) (x := v6) rfl ((sw_arr (hW).m9 rfl rfl).2) (by omega) hC ((sw_now (hW).m9).2) (by omega) ?_
    intro c9 hC9 ec9
    show tt Zi d 53 (60, [some (.inr (.inl 9)), some (.inl i), some (.inl hv)], [], n, D, s, p, c9) _
    have FK10 : fk p c n p c9 [901] := fk_st (k := 901) (fk_rf hD) ec9 (by decide) rfl
    exact tt_rtv rfl rfl ⟨c9, rfl, rfl, hC9, FK10⟩
  · show tt Zi d 53 (12, [some (.inr (.inl 9)), some (.inl i), some (.inl hv)], [], n, D, s, p, c) _
    refine tt_k 6 (S' := (20, [some (.inr (.inl 9)), some (.inl i), some (.inl hv)], [.inl (i + 0), .inr (.inl (p 901)), .inl (i + 0), .inr (.inl (p 901))], n, D, s, p, c)) rfl ?_
    refine tt_ilb (i := (i + 0)) (m := 1468) (lo := -2147483648) (hi := 2147483647) rfl ((sw_arr (hW).m9 rfl rfl).2) (by omega) hC ((sw_now (hW).m9).2) ?_
    intro v11 b12 hvv11
    show tt Zi d 53 (21, [some (.inr (.inl 9)), some (.inl i), some (.inl hv)], [.inl v11, .inl (i + 0), .inr (.inl (p 901))], n, D, s, p, c) _
    refine tt_k 2 (S' := (23, [some (.inr (.inl 9)), some (.inl i), some (.inl hv)], [.inl (mi_shr v11 1), .inl (i + 0), .inr (.inl (p 901))], n, D, s, p, c)) rfl ?_
    have e13 := mi_shr_bd v11 1
    refine tt_isb (i := (i + 0)) (m := 1468) (lo := -2147483648) (hi := 2147483647) (x := (mi_shr v11 1)) rfl ((sw_arr (hW).m9 rfl rfl).2) (by omega) hC ((sw_now (hW).m9).2) (by omega) ?_
    intro c14 hC14 ec14
    show tt Zi d 53 (24, [some (.inr (.inl 9)), some (.inl i), some (.inl hv)], [], n, D, s, p, c14) _
    have FK15 : fk p c n p c14 [901] := fk_st (k := 901) (fk_rf hD) ec14 (by decide) rfl
    refine tt_k 6 (S' := (32, [some (.inr (.inl 9)), some (.inl i), some (.inl hv)], [.inl (i + 1), .inr (.inl (p 901)), .inl (i + 1), .inr (.inl (p 901))], n, D, s, p, c14)) rfl ?_
    refine tt_ilb (i := (i + 1)) (m := 1468) (lo := -2147483648) (hi := 2147483647) rfl ((sw_arr (hW).m9 rfl rfl).2) (by omega) hC14 ((sw_now (hW).m9).2) ?_
    intro v16 b17 hvv16
    show tt Zi d 53 (33, [some (.inr (.inl 9)), some (.inl i), some (.inl hv)], [.inl v16, .inl (i + 1), .inr (.inl (p 901))], n, D, s, p, c14) _
    refine tt_k 2 (S' := (35, [some (.inr (.inl 9)), some (.inl i), some (.inl hv)], [.inl (mi_shr v16 1), .inl (i + 1), .inr (.inl (p 901))], n, D, s, p, c14)) rfl ?_
    have e18 := mi_shr_bd v16 1
    refine tt_isb (i := (i + 1)) (m := 1468) (lo := -2147483648) (hi := 2147483647) (x := (mi_shr v16 1)) rfl ((sw_arr (hW).m9 rfl rfl).2) (by omega) hC14 ((sw_now (hW).m9).2) (by omega) ?_
    intro c19 hC19 ec19
    show tt Zi d 53 (36, [some (.inr (.inl 9)), some (.inl i), some (.inl hv)], [], n, D, s, p, c19) _
    have FK20 : fk p c n p c19 [901] := fk_st (k := 901) FK15 ec19 (by decide) rfl
    refine tt_k 6 (S' := (44, [some (.inr (.inl 9)), some (.inl i), some (.inl hv)], [.inl (i + 3), .inr (.inl (p 901)), .inl (i + 3), .inr (.inl (p 901))], n, D, s, p, c19)) rfl ?_
    refine tt_ilb (i := (i + 3)) (m := 1468) (lo := -2147483648) (hi := 2147483647) rfl ((sw_arr (hW).m9 rfl rfl).2) (by omega) hC19 ((sw_now (hW).m9).2) ?_
    intro v21 b22 hvv21
    show tt Zi d 53 (45, [some (.inr (.inl 9)), some (.inl i), some (.inl hv)], [.inl v21, .inl (i + 3), .inr (.inl (p 901))], n, D, s, p, c19) _
    refine tt_k 2 (S' := (47, [some (.inr (.inl 9)), some (.inl i), some (.inl hv)], [.inl (mi_shr v21 1), .inl (i + 3), .inr (.inl (p 901))], n, D, s, p, c19)) rfl ?_
    have e23 := mi_shr_bd v21 1
    refine tt_isb (i := (i + 3)) (m := 1468) (lo := -2147483648) (hi := 2147483647) (x := (mi_shr v21 1)) rfl ((sw_arr (hW).m9 rfl rfl).2) (by omega) hC19 ((sw_now (hW).m9).2) (by omega) ?_
    intro c24 hC24 ec24
    show tt Zi d 53 (48, [some (.inr (.inl 9)), some (.inl i), some (.inl hv)], [], n, D, s, p, c24) _
    have FK25 : fk p c n p c24 [901] := fk_st (k := 901) FK20 ec24 (by decide) rfl
    refine tt_k 6 (S' := (56, [some (.inr (.inl 9)), some (.inl i), some (.inl hv)], [.inl (i + 3), .inr (.inl (p 901)), .inl (i + 3), .inr (.inl (p 901))], n, D, s, p, c24)) rfl ?_
    refine tt_ilb (i := (i + 3)) (m := 1468) (lo := -2147483648) (hi := 2147483647) rfl ((sw_arr (hW).m9 rfl rfl).2) (by omega) hC24 ((sw_now (hW).m9).2) ?_
    intro v26 b27 hvv26
    show tt Zi d 53 (57, [some (.inr (.inl 9)), some (.inl i), some (.inl hv)], [.inl v26, .inl (i + 3), .inr (.inl (p 901))], n, D, s, p, c24) _
    refine tt_k 2 (S' := (59, [some (.inr (.inl 9)), some (.inl i), some (.inl hv)], [.inl (v26 + 1), .inl (i + 3), .inr (.inl (p 901))], n, D, s, p, c24)) rfl ?_
    refine tt_wm (x := (v26 + 1)) ?_
    intro v28 b29 w30
    show tt Zi d 53 (59, [some (.inr (.inl 9)), some (.inl i), some (.inl hv)], [.inl v28, .inl (i + 3), .inr (.inl (p 901))], n, D, s, p, c24) _
    refine tt_isb (i := (i + 3)) (m := 1468) (lo := -2147483648) (hi := 2147483647) (x := v28) rfl ((sw_arr (hW).m9 rfl rfl).2) (by omega) hC24 ((sw_now (hW).m9).2) (by omega) ?_
    intro c31 hC31 ec31
    show tt Zi d 53 (60, [some (.inr (.inl 9)), some (.inl i), some (.inl hv)], [], n, D, s, p, c31) _
    have FK32 : fk p c n p c31 [901] := fk_st (k := 901) FK25 ec31 (by decide) rfl
    exact tt_rtv rfl rfl ⟨c31, rfl, rfl, hC31, FK32⟩
set_option maxRecDepth 100000 in
set_option maxHeartbeats 4000000 in
theorem g_correct {g : Nat → Int} {Zi : Nat → Option (Nat × (Nat → Int))} {d n q : Nat} {D : Nat → Nat × Nat} {s : Nat → Int} {p : Nat → Nat} {c : Nat → Nat → Int} (hd : 0 ≤ d) (hz : zk Zi) (hq : q + 0 ≤ 400000) (hD : wd n p) (hS : bS s) (hC : bC D c) (hW : wp q g n D p s) (i : Int) (b_i : 0 ≤ i ∧ i ≤ 1464) : tt Zi d 54 (0, [some (.inr (.inl 9)), some (.inl i), none], [], n, D, s, p, c) (fun R H => ∃ (c' : Nat → Nat → Int), R = .inl none ∧ H = (n, D, s, p, c') ∧ bC D c' ∧ fk p c n p c' [901]) := by
  refine tt_k 5 (S' := (7, [some (.inr (.inl 9)), some (.inl i), none], [.inl (i + 3), .inr (.inl (p 901))], n, D, s, p, c)) rfl ?_
  refine tt_ilb (i := (i + 3)) (m := 1468) (lo := -2147483648) (hi := 2147483647) rfl ((sw_arr (hW).m9 rfl rfl).2) (by omega) hC ((sw_now (hW).m9).2) ?_
  intro v1 b2 hvv1
  show tt Zi d 54 (8, [some (.inr (.inl 9)), some (.inl i), none], [.inl v1], n, D, s, p, c) _
  refine tt_k 6 (S' := (16, [some (.inr (.inl 9)), some (.inl i), some (.inl v1)], [.inl (i + 1), .inr (.inl (p 901))], n, D, s, p, c)) rfl ?_
  refine tt_ilb (i := (i + 1)) (m := 1468) (lo := -2147483648) (hi := 2147483647) rfl ((sw_arr (hW).m9 rfl rfl).2) (by omega) hC ((sw_now (hW).m9).2) ?_
  intro v3 b4 hvv3
  show tt Zi d 54 (17, [some (.inr (.inl 9)), some (.inl i), some (.inl v1)], [.inl v3], n, D, s, p, c) _
  refine tt_k 2 (S' := (19, [some (.inr (.inl 9)), some (.inl i), some (.inl v1)], [.inl (-v1), .inl v3], n, D, s, p, c)) rfl ?_
  refine tt_wm (x := (-v1)) ?_
  intro v5 b6 w7
  show tt Zi d 54 (19, [some (.inr (.inl 9)), some (.inl i), some (.inl v1)], [.inl v5, .inl v3], n, D, s, p, c) _
  refine tb_gt (x := v3) (y := v5) rfl rfl (by omega) (fun h8 => ?_) (fun h8 => ?_)
  · show tt Zi d 54 (72, [some (.inr (.inl 9)), some (.inl i), some (.inl v1)], [], n, D, s, p, c) _
    refine tt_k 5 (S' := (79, [some (.inr (.inl 9)), some (.inl i), some (.inl v1)], [.inl (i + 1), .inr (.inl (p 901))], n, D, s, p, c)) rfl ?_
    refine tt_ilb (i := (i + 1)) (m := 1468) (lo := -2147483648) (hi := 2147483647) rfl ((sw_arr (hW).m9 rfl rfl).2) (by omega) hC ((sw_now (hW).m9).2) ?_
    intro v9 b10 hvv9
    show tt Zi d 54 (80, [some (.inr (.inl 9)), some (.inl i), some (.inl v1)], [.inl v9], n, D, s, p, c) _
    refine tz_le (x := v9) rfl rfl (by omega) (fun h11 => ?_) (fun h11 => ?_)
    · show tt Zi d 54 (128, [some (.inr (.inl 9)), some (.inl i), some (.inl v1)], [], n, D, s, p, c) _
      exact tt_rtv rfl rfl ⟨c, rfl, rfl, hC, (fk_rf hD)⟩
    · show tt Zi d 54 (83, [some (.inr (.inl 9)), some (.inl i), some (.inl v1)], [], n, D, s, p, c) _
      refine tt_k 11 (S' := (98, [some (.inr (.inl 9)), some (.inl i), some (.inl v1)], [.inl (i + 1), .inr (.inl (p 901)), .inl 0, .inl (i + 1), .inr (.inl (p 901))], n, D, s, p, c)) rfl ?_
      refine tt_ilb (i := (i + 1)) (m := 1468) (lo := -2147483648) (hi := 2147483647) rfl ((sw_arr (hW).m9 rfl rfl).2) (by omega) hC ((sw_now (hW).m9).2) ?_
      intro v12 b13 hvv12
      show tt Zi d 54 (99, [some (.inr (.inl 9)), some (.inl i), some (.inl v1)], [.inl v12, .inl 0, .inl (i + 1), .inr (.inl (p 901))], n, D, s, p, c) _
      refine tt_k 2 (S' := (101, [some (.inr (.inl 9)), some (.inl i), some (.inl v1)], [.inl (v12 - v1), .inl 0, .inl (i + 1), .inr (.inl (p 901))], n, D, s, p, c)) rfl ?_
      refine tt_wm (x := (v12 - v1)) ?_
      intro v14 b15 w16
      show tt Zi d 54 (101, [some (.inr (.inl 9)), some (.inl i), some (.inl v1)], [.inl v14, .inl 0, .inl (i + 1), .inr (.inl (p 901))], n, D, s, p, c) _
      refine tt_min (k := 0) (x := 0) (y := v14) rfl rfl (Nat.le_of_ble_eq_true rfl) (by omega) ?_
      refine tt_isb (i := (i + 1)) (m := 1468) (lo := -2147483648) (hi := 2147483647) (x := (min 0 v14)) rfl ((sw_arr (hW).m9 rfl rfl).2) (by omega) hC ((sw_now (hW).m9).2) (by omega) ?_
      intro c17 hC17 ec17
      show tt Zi d 54 (105, [some (.inr (.inl 9)), some (.inl i), some (.inl v1)], [], n, D, s, p, c17) _
      have FK18 : fk p c n p c17 [901] := fk_st (k := 901) (fk_rf hD) ec17 (by decide) rfl
      refine tt_k 11 (S' := (121, [some (.inr (.inl 9)), some (.inl i), some (.inl v1)], [.inl (i + 2), .inr (.inl (p 901)), .inl 127, .inl (i + 2), .inr (.inl (p 901))], n, D, s, p, c17)) rfl ?_
      refine tt_ilb (i := (i + 2)) (m := 1468) (lo := -2147483648) (hi := 2147483647) rfl ((sw_arr (hW).m9 rfl rfl).2) (by omega) hC17 ((sw_now (hW).m9).2) ?_
      intro v19 b20 hvv19
      show tt Zi d 54 (122, [some (.inr (.inl 9)), some (.inl i), some (.inl v1)], [.inl v19, .inl 127, .inl (i + 2), .inr (.inl (p 901))], n, D, s, p, c17) _
      refine tt_k 2 (S' := (124, [some (.inr (.inl 9)), some (.inl i), some (.inl v1)], [.inl (v19 + 1), .inl 127, .inl (i + 2), .inr (.inl (p 901))], n, D, s, p, c17)) rfl ?_
      refine tt_wm (x := (v19 + 1)) ?_
      intro v21 b22 w23
      show tt Zi d 54 (124, [some (.inr (.inl 9)), some (.inl i), some (.inl v1)], [.inl v21, .inl 127, .inl (i + 2), .inr (.inl (p 901))], n, D, s, p, c17) _
      refine tt_min (k := 0) (x := 127) (y := v21) rfl rfl (Nat.le_of_ble_eq_true rfl) (by omega) ?_
      refine tt_isb (i := (i + 2)) (m := 1468) (lo := -2147483648) (hi := 2147483647) (x := (min 127 v21)) rfl ((sw_arr (hW).m9 rfl rfl).2) (by omega) hC17 ((sw_now (hW).m9).2) (by omega) ?_
      intro c24 hC24 ec24
      show tt Zi d 54 (128, [some (.inr (.inl 9)), some (.inl i), some (.inl v1)], [], n, D, s, p, c24) _
      have FK25 : fk p c n p c24 [901] := fk_st (k := 901) FK18 ec24 (by decide) rfl
      exact tt_rtv rfl rfl ⟨c24, rfl, rfl, hC24, FK25⟩
  · show tt Zi d 54 (22, [some (.inr (.inl 9)), some (.inl i), some (.inl v1)], [], n, D, s, p, c) _
    refine tt_k 8 (S' := (32, [some (.inr (.inl 9)), some (.inl i), some (.inl v1)], [.inl (1 - v1), .inl (i + 1), .inr (.inl (p 901))], n, D, s, p, c)) rfl ?_
    refine tt_wm (x := (1 - v1)) ?_
    intro v26 b27 w28
    show tt Zi d 54 (32, [some (.inr (.inl 9)), some (.inl i), some (.inl v1)], [.inl v26, .inl (i + 1), .inr (.inl (p 901))], n, D, s, p, c) _
    refine tt_k 5 (S' := (39, [some (.inr (.inl 9)), some (.inl i), some (.inl v1)], [.inl (i + 1), .inr (.inl (p 901)), .inl v26, .inl (i + 1), .inr (.inl (p 901))], n, D, s, p, c)) rfl ?_
    refine tt_ilb (i := (i + 1)) (m := 1468) (lo := -2147483648) (hi := 2147483647) rfl ((sw_arr (hW).m9 rfl rfl).2) (by omega) hC ((sw_now (hW).m9).2) ?_
    intro v29 b30 hvv29
    show tt Zi d 54 (40, [some (.inr (.inl 9)), some (.inl i), some (.inl v1)], [.inl v29, .inl v26, .inl (i + 1), .inr (.inl (p 901))], n, D, s, p, c) _
    refine tt_k 2 (S' := (42, [some (.inr (.inl 9)), some (.inl i), some (.inl v1)], [.inl (v29 + v1), .inl v26, .inl (i + 1), .inr (.inl (p 901))], n, D, s, p, c)) rfl ?_
    refine tt_wm (x := (v29 + v1)) ?_
    intro v31 b32 w33
    show tt Zi d 54 (42, [some (.inr (.inl 9)), some (.inl i), some (.inl v1)], [.inl v31, .inl v26, .inl (i + 1), .inr (.inl (p 901))], n, D, s, p, c) _
    refine tt_max (k := 0) (x := v26) (y := v31) rfl rfl (Nat.le_of_ble_eq_true rfl) (by omega) ?_
    refine tt_isb (i := (i + 1)) (m := 1468) (lo := -2147483648) (hi := 2147483647) (x := (max v26 v31)) rfl ((sw_arr (hW).m9 rfl rfl).2) (by omega) hC ((sw_now (hW).m9).2) (by omega) ?_
    intro c34 hC34 ec34
    show tt Zi d 54 (46, [some (.inr (.inl 9)), some (.inl i), some (.inl v1)], [], n, D, s, p, c34) _
    have FK35 : fk p c n p c34 [901] := fk_st (k := 901) (fk_rf hD) ec34 (by decide) rfl
    refine tt_k 11 (S' := (62, [some (.inr (.inl 9)), some (.inl i), some (.inl v1)], [.inl (i + 2), .inr (.inl (p 901)), .inl (-128), .inl (i + 2), .inr (.inl (p 901))], n, D, s, p, c34)) rfl ?_
    refine tt_ilb (i := (i + 2)) (m := 1468) (lo := -2147483648) (hi := 2147483647) rfl ((sw_arr (hW).m9 rfl rfl).2) (by omega) hC34 ((sw_now (hW).m9).2) ?_
    intro v36 b37 hvv36
    show tt Zi d 54 (63, [some (.inr (.inl 9)), some (.inl i), some (.inl v1)], [.inl v36, .inl (-128), .inl (i + 2), .inr (.inl (p 901))], n, D, s, p, c34) _
    refine tt_k 2 (S' := (65, [some (.inr (.inl 9)), some (.inl i), some (.inl v1)], [.inl (v36 - 1), .inl (-128), .inl (i + 2), .inr (.inl (p 901))], n, D, s, p, c34)) rfl ?_
    refine tt_wm (x := (v36 - 1)) ?_
    intro v38 b39 w40
    show tt Zi d 54 (65, [some (.inr (.inl 9)), some (.inl i), some (.inl v1)], [.inl v38, .inl (-128), .inl (i + 2), .inr (.inl (p 901))], n, D, s, p, c34) _
    refine tt_max (k := 0) (x := (-128)) (y := v38) rfl rfl (Nat.le_of_ble_eq_true rfl) (by omega) ?_
    refine tt_isb (i := (i + 2)) (m := 1468) (lo := -2147483648) (hi := 2147483647) (x := (max (-128) v38)) rfl ((sw_arr (hW).m9 rfl rfl).2) (by omega) hC34 ((sw_now (hW).m9).2) (by omega) ?_
    intro c41 hC41 ec41
    show tt Zi d 54 (69, [some (.inr (.inl 9)), some (.inl i), some (.inl v1)], [], n, D, s, p, c41) _
    have FK42 : fk p c n p c41 [901] := fk_st (k := 901) FK35 ec41 (by decide) rfl
    refine tt_k 1 (S' := (128, [some (.inr (.inl 9)), some (.inl i), some (.inl v1)], [], n, D, s, p, c41)) rfl ?_
    exact tt_rtv rfl rfl ⟨c41, rfl, rfl, hC41, FK42⟩
set_option maxRecDepth 100000 in
set_option maxHeartbeats 4000000 in
theorem g_learnSample {g : Nat → Int} {Zi : Nat → Option (Nat × (Nat → Int))} {d n q : Nat} {D : Nat → Nat × Nat} {s : Nat → Int} {p : Nat → Nat} {c : Nat → Nat → Int} (hd : 1 ≤ d) (hz : zk Zi) (hq : q + 2 ≤ 400000) (hD : wd n p) (hS : bS s) (hC : bC D c) (hW : wp q g n D p s) (pl : Int) (e : Int) (b_pl : 0 ≤ pl ∧ pl ≤ 366) (b_e : -300000 ≤ e ∧ e ≤ 300000) : tt Zi d 52 (0, [some (.inr (.inl 9)), some (.inl pl), some (.inl e), some (.inr (.inl 8)), none], [], n, D, s, p, c) (fun R H => ∃ (c' : Nat → Nat → Int), R = .inl none ∧ H = (n, D, s, p, c') ∧ bC D c' ∧ fk p c n p c' [901]) := by
  refine tt_k 10 (S' := (14, [some (.inr (.inl 9)), some (.inl pl), some (.inl e), some (.inr (.inl 8)), some (.inl (4 * pl))], [.inl ((4 * pl) + 0), .inr (.inl (p 901)), .inl ((4 * pl) + 0), .inr (.inl (p 901))], n, D, s, p, c)) rfl ?_
  refine tt_ilb (i := ((4 * pl) + 0)) (m := 1468) (lo := -2147483648) (hi := 2147483647) rfl ((sw_arr (hW).m9 rfl rfl).2) (by omega) hC ((sw_now (hW).m9).2) ?_
  intro v1 b2 hvv1
  show tt Zi d 52 (15, [some (.inr (.inl 9)), some (.inl pl), some (.inl e), some (.inr (.inl 8)), some (.inl (4 * pl))], [.inl v1, .inl ((4 * pl) + 0), .inr (.inl (p 901))], n, D, s, p, c) _
  refine tt_k 1 (S' := (16, [some (.inr (.inl 9)), some (.inl pl), some (.inl e), some (.inr (.inl 8)), some (.inl (4 * pl))], [.inl e, .inl v1, .inl ((4 * pl) + 0), .inr (.inl (p 901))], n, D, s, p, c)) rfl ?_
  refine tt_abs (k := 0) (x := e) rfl rfl (Nat.le_of_ble_eq_true rfl) (by omega) ?_
  show tt Zi d 52 (19, [some (.inr (.inl 9)), some (.inl pl), some (.inl e), some (.inr (.inl 8)), some (.inl (4 * pl))], [.inl (if 0 ≤ e then e else -e), .inl v1, .inl ((4 * pl) + 0), .inr (.inl (p 901))], n, D, s, p, c) _
  refine tt_k 1 (S' := (20, [some (.inr (.inl 9)), some (.inl pl), some (.inl e), some (.inr (.inl 8)), some (.inl (4 * pl))], [.inl (v1 + (if 0 ≤ e then e else -e)), .inl ((4 * pl) + 0), .inr (.inl (p 901))], n, D, s, p, c)) rfl ?_
  refine tt_wm (x := (v1 + (if 0 ≤ e then e else -e))) ?_
  intro v3 b4 w5
  show tt Zi d 52 (20, [some (.inr (.inl 9)), some (.inl pl), some (.inl e), some (.inr (.inl 8)), some (.inl (4 * pl))], [.inl v3, .inl ((4 * pl) + 0), .inr (.inl (p 901))], n, D, s, p, c) _
  refine tt_isb (i := ((4 * pl) + 0)) (m := 1468) (lo := -2147483648) (hi := 2147483647) (x := v3) rfl ((sw_arr (hW).m9 rfl rfl).2) (by omega) hC ((sw_now (hW).m9).2) (by omega) ?_
  intro c6 hC6 ec6
  show tt Zi d 52 (21, [some (.inr (.inl 9)), some (.inl pl), some (.inl e), some (.inr (.inl 8)), some (.inl (4 * pl))], [], n, D, s, p, c6) _
  have FK7 : fk p c n p c6 [901] := fk_st (k := 901) (fk_rf hD) ec6 (by decide) rfl
  refine tt_k 6 (S' := (30, [some (.inr (.inl 9)), some (.inl pl), some (.inl e), some (.inr (.inl 8)), some (.inl (4 * pl))], [.inl ((4 * pl) + 1), .inr (.inl (p 901)), .inl ((4 * pl) + 1), .inr (.inl (p 901))], n, D, s, p, c6)) rfl ?_
  refine tt_ilb (i := ((4 * pl) + 1)) (m := 1468) (lo := -2147483648) (hi := 2147483647) rfl ((sw_arr (hW).m9 rfl rfl).2) (by omega) hC6 ((sw_now (hW).m9).2) ?_
  intro v8 b9 hvv8
  show tt Zi d 52 (31, [some (.inr (.inl 9)), some (.inl pl), some (.inl e), some (.inr (.inl 8)), some (.inl (4 * pl))], [.inl v8, .inl ((4 * pl) + 1), .inr (.inl (p 901))], n, D, s, p, c6) _
  refine tt_k 5 (S' := (38, [some (.inr (.inl 9)), some (.inl pl), some (.inl e), some (.inr (.inl 8)), some (.inl (4 * pl))], [.inl ((v8 + (e * (s 806)))), .inl ((4 * pl) + 1), .inr (.inl (p 901))], n, D, s, p, c6)) rfl ?_
  have b11 : 1 ≤ (s 806) ∧ (s 806) ≤ 511 := hS 806
  have m12 := mul_bd (e := e) (st := (s 806)) (a := 300000) (b := 511) (by omega) (by omega) (by omega) (by omega) (by omega)
  refine tt_wm (x := (v8 + (e * (s 806)))) ?_
  intro v10 b13 w14
  show tt Zi d 52 (38, [some (.inr (.inl 9)), some (.inl pl), some (.inl e), some (.inr (.inl 8)), some (.inl (4 * pl))], [.inl v10, .inl ((4 * pl) + 1), .inr (.inl (p 901))], n, D, s, p, c6) _
  refine tt_isb (i := ((4 * pl) + 1)) (m := 1468) (lo := -2147483648) (hi := 2147483647) (x := v10) rfl ((sw_arr (hW).m9 rfl rfl).2) (by omega) hC6 ((sw_now (hW).m9).2) (by omega) ?_
  intro c15 hC15 ec15
  show tt Zi d 52 (39, [some (.inr (.inl 9)), some (.inl pl), some (.inl e), some (.inr (.inl 8)), some (.inl (4 * pl))], [], n, D, s, p, c15) _
  have FK16 : fk p c n p c15 [901] := fk_st (k := 901) FK7 ec15 (by decide) rfl
  refine tt_k 4 (S' := (46, [some (.inr (.inl 9)), some (.inl pl), some (.inl e), some (.inr (.inl 8)), some (.inl (4 * pl))], [.inl (s 805), .inl (4 * pl), .inr (.inl 9)], n, D, s, p, c15)) rfl ?_
  have b17 : 0 ≤ (s 805) ∧ (s 805) ≤ 65535 := hS 805
  refine tt_cl (by omega) rfl (g_count (Zi := Zi) (q := q) (n := n) (D := D) (s := s) (p := p) (c := c15) (by omega) hz (by omega) FK16.1 hS hC15 hW (4 * pl) (s 805) (by omega) (by omega)) ?_
  rintro _ _ ⟨c18, rfl, rfl, hC18, kf19⟩
  have FK20 : fk p c n p c18 [901] := fk_tr FK16 kf19 (by decide)
  show tt Zi d 52 (49, [some (.inr (.inl 9)), some (.inl pl), some (.inl e), some (.inr (.inl 8)), some (.inl (4 * pl))], [], n, D, s, p, c18) _
  refine tt_k 2 (S' := (52, [some (.inr (.inl 9)), some (.inl pl), some (.inl e), some (.inr (.inl 8)), some (.inl (4 * pl))], [.inl (4 * pl), .inr (.inl 9)], n, D, s, p, c18)) rfl ?_
  refine tt_cl (by omega) rfl (g_correct (Zi := Zi) (q := q) (n := n) (D := D) (s := s) (p := p) (c := c18) (by omega) hz (by omega) FK20.1 hS hC18 hW (4 * pl) (by omega)) ?_
  rintro _ _ ⟨c21, rfl, rfl, hC21, kf22⟩
  have FK23 : fk p c n p c21 [901] := fk_tr FK20 kf22 (by decide)
  show tt Zi d 52 (55, [some (.inr (.inl 9)), some (.inl pl), some (.inl e), some (.inr (.inl 8)), some (.inl (4 * pl))], [], n, D, s, p, c21) _
  exact tt_rtv rfl rfl ⟨c21, rfl, rfl, hC21, FK23⟩
set_option maxRecDepth 100000 in
set_option maxHeartbeats 4000000 in
theorem g_learnStop {g : Nat → Int} {Zi : Nat → Option (Nat × (Nat → Int))} {d n q : Nat} {D : Nat → Nat × Nat} {s : Nat → Int} {p : Nat → Nat} {c : Nat → Nat → Int} (hd : 1 ≤ d) (hz : zk Zi) (hq : q + 2 ≤ 400000) (hD : wd n p) (hS : bS s) (hC : bC D c) (hW : wp q g n D p s) (pl : Int) (e : Int) (mo : Int) (hv : Int) (b_pl : 0 ≤ pl ∧ pl ≤ 366) (b_e : -2147483648 ≤ e ∧ e ≤ 2147483647) (b_mo : -2147483648 ≤ mo ∧ mo ≤ 2147483647) (b_hv : -2147483648 ≤ hv ∧ hv ≤ 2147483647) : tt Zi d 72 (0, [some (.inr (.inl 9)), some (.inl pl), some (.inl e), some (.inl mo), some (.inl hv), none], [], n, D, s, p, c) (fun R H => ∃ (c' : Nat → Nat → Int), R = .inl none ∧ H = (n, D, s, p, c') ∧ bC D c' ∧ fk p c n p c' [901]) := by
  refine tt_k 10 (S' := (14, [some (.inr (.inl 9)), some (.inl pl), some (.inl e), some (.inl mo), some (.inl hv), some (.inl (4 * pl))], [.inl ((4 * pl) + 0), .inr (.inl (p 901)), .inl ((4 * pl) + 0), .inr (.inl (p 901))], n, D, s, p, c)) rfl ?_
  refine tt_ilb (i := ((4 * pl) + 0)) (m := 1468) (lo := -2147483648) (hi := 2147483647) rfl ((sw_arr (hW).m9 rfl rfl).2) (by omega) hC ((sw_now (hW).m9).2) ?_
  intro v1 b2 hvv1
  show tt Zi d 72 (15, [some (.inr (.inl 9)), some (.inl pl), some (.inl e), some (.inl mo), some (.inl hv), some (.inl (4 * pl))], [.inl v1, .inl ((4 * pl) + 0), .inr (.inl (p 901))], n, D, s, p, c) _
  refine tt_k 2 (S' := (17, [some (.inr (.inl 9)), some (.inl pl), some (.inl e), some (.inl mo), some (.inl hv), some (.inl (4 * pl))], [.inl (v1 + mo), .inl ((4 * pl) + 0), .inr (.inl (p 901))], n, D, s, p, c)) rfl ?_
  refine tt_wm (x := (v1 + mo)) ?_
  intro v3 b4 w5
  show tt Zi d 72 (17, [some (.inr (.inl 9)), some (.inl pl), some (.inl e), some (.inl mo), some (.inl hv), some (.inl (4 * pl))], [.inl v3, .inl ((4 * pl) + 0), .inr (.inl (p 901))], n, D, s, p, c) _
  refine tt_isb (i := ((4 * pl) + 0)) (m := 1468) (lo := -2147483648) (hi := 2147483647) (x := v3) rfl ((sw_arr (hW).m9 rfl rfl).2) (by omega) hC ((sw_now (hW).m9).2) (by omega) ?_
  intro c6 hC6 ec6
  show tt Zi d 72 (18, [some (.inr (.inl 9)), some (.inl pl), some (.inl e), some (.inl mo), some (.inl hv), some (.inl (4 * pl))], [], n, D, s, p, c6) _
  have FK7 : fk p c n p c6 [901] := fk_st (k := 901) (fk_rf hD) ec6 (by decide) rfl
  refine tt_k 6 (S' := (27, [some (.inr (.inl 9)), some (.inl pl), some (.inl e), some (.inl mo), some (.inl hv), some (.inl (4 * pl))], [.inl ((4 * pl) + 1), .inr (.inl (p 901)), .inl ((4 * pl) + 1), .inr (.inl (p 901))], n, D, s, p, c6)) rfl ?_
  refine tt_ilb (i := ((4 * pl) + 1)) (m := 1468) (lo := -2147483648) (hi := 2147483647) rfl ((sw_arr (hW).m9 rfl rfl).2) (by omega) hC6 ((sw_now (hW).m9).2) ?_
  intro v8 b9 hvv8
  show tt Zi d 72 (28, [some (.inr (.inl 9)), some (.inl pl), some (.inl e), some (.inl mo), some (.inl hv), some (.inl (4 * pl))], [.inl v8, .inl ((4 * pl) + 1), .inr (.inl (p 901))], n, D, s, p, c6) _
  refine tt_k 1 (S' := (29, [some (.inr (.inl 9)), some (.inl pl), some (.inl e), some (.inl mo), some (.inl hv), some (.inl (4 * pl))], [.inl e, .inl v8, .inl ((4 * pl) + 1), .inr (.inl (p 901))], n, D, s, p, c6)) rfl ?_
  have K11 : ∀ (j10 : Int) , (0 ≤ j10 ∧ j10 ≤ 1) → ((0 ≤ e ∧ j10 = 0) ∨ (e < 0 ∧ j10 = 1)) → tt Zi d 72 (37, [some (.inr (.inl 9)), some (.inl pl), some (.inl e), some (.inl mo), some (.inl hv), some (.inl (4 * pl))], [.inl j10, .inl v8, .inl ((4 * pl) + 1), .inr (.inl (p 901))], n, D, s, p, c6) (fun R H => ∃ (c' : Nat → Nat → Int), R = .inl none ∧ H = (n, D, s, p, c') ∧ bC D c' ∧ fk p c n p c' [901]) := by
    intro j10 b13 hj12
    refine tt_k 1 (S' := (38, [some (.inr (.inl 9)), some (.inl pl), some (.inl e), some (.inl mo), some (.inl hv), some (.inl (4 * pl))], [.inl (v8 + j10), .inl ((4 * pl) + 1), .inr (.inl (p 901))], n, D, s, p, c6)) rfl ?_
    refine tt_wm (x := (v8 + j10)) ?_
    intro v14 b15 w16
    show tt Zi d 72 (38, [some (.inr (.inl 9)), some (.inl pl), some (.inl e), some (.inl mo), some (.inl hv), some (.inl (4 * pl))], [.inl v14, .inl ((4 * pl) + 1), .inr (.inl (p 901))], n, D, s, p, c6) _
    refine tt_isb (i := ((4 * pl) + 1)) (m := 1468) (lo := -2147483648) (hi := 2147483647) (x := v14) rfl ((sw_arr (hW).m9 rfl rfl).2) (by omega) hC6 ((sw_now (hW).m9).2) (by omega) ?_
    intro c17 hC17 ec17
    show tt Zi d 72 (39, [some (.inr (.inl 9)), some (.inl pl), some (.inl e), some (.inl mo), some (.inl hv), some (.inl (4 * pl))], [], n, D, s, p, c17) _
    have FK18 : fk p c n p c17 [901] := fk_st (k := 901) FK7 ec17 (by decide) rfl
    refine tt_k 3 (S' := (44, [some (.inr (.inl 9)), some (.inl pl), some (.inl e), some (.inl mo), some (.inl hv), some (.inl (4 * pl))], [.inl hv, .inl (4 * pl), .inr (.inl 9)], n, D, s, p, c17)) rfl ?_
    refine tt_cl (by omega) rfl (g_count (Zi := Zi) (q := q) (n := n) (D := D) (s := s) (p := p) (c := c17) (by omega) hz (by omega) FK18.1 hS hC17 hW (4 * pl) hv (by omega) (by omega)) ?_
    rintro _ _ ⟨c19, rfl, rfl, hC19, kf20⟩
    have FK21 : fk p c n p c19 [901] := fk_tr FK18 kf20 (by decide)
    show tt Zi d 72 (47, [some (.inr (.inl 9)), some (.inl pl), some (.inl e), some (.inl mo), some (.inl hv), some (.inl (4 * pl))], [], n, D, s, p, c19) _
    exact tt_rtv rfl rfl ⟨c19, rfl, rfl, hC19, FK21⟩
  refine tz_ge (x := e) rfl rfl (by omega) (fun h22 => ?_) (fun h22 => ?_)
  · show tt Zi d 72 (36, [some (.inr (.inl 9)), some (.inl pl), some (.inl e), some (.inl mo), some (.inl hv), some (.inl (4 * pl))], [.inl v8, .inl ((4 * pl) + 1), .inr (.inl (p 901))], n, D, s, p, c6) _
    refine tt_k 1 (S' := (37, [some (.inr (.inl 9)), some (.inl pl), some (.inl e), some (.inl mo), some (.inl hv), some (.inl (4 * pl))], [.inl 0, .inl v8, .inl ((4 * pl) + 1), .inr (.inl (p 901))], n, D, s, p, c6)) rfl ?_
    exact K11 0  (by omega) (Or.inl ⟨h22, rfl⟩)
  · show tt Zi d 72 (32, [some (.inr (.inl 9)), some (.inl pl), some (.inl e), some (.inl mo), some (.inl hv), some (.inl (4 * pl))], [.inl v8, .inl ((4 * pl) + 1), .inr (.inl (p 901))], n, D, s, p, c6) _
    refine tt_k 2 (S' := (37, [some (.inr (.inl 9)), some (.inl pl), some (.inl e), some (.inl mo), some (.inl hv), some (.inl (4 * pl))], [.inl 1, .inl v8, .inl ((4 * pl) + 1), .inr (.inl (p 901))], n, D, s, p, c6)) rfl ?_
    exact K11 1  (by omega) (Or.inr (⟨h22, rfl⟩))
set_option maxRecDepth 100000 in
set_option maxHeartbeats 4000000 in
theorem g_keep {g : Nat → Int} {Zi : Nat → Option (Nat × (Nat → Int))} {d n q : Nat} {D : Nat → Nat × Nat} {s : Nat → Int} {p : Nat → Nat} {c : Nat → Nat → Int} (hd : 0 ≤ d) (hz : zk Zi) (hq : q + 0 ≤ 400000) (hD : wd n p) (hS : bS s) (hC : bC D c) (hW : wp q g n D p s)  : tt Zi d 77 (0, [some (.inr (.inl 9)), none], [], n, D, s, p, c) (fun R H => ∃ (p' : Nat → Nat), R = .inl none ∧ H = (n, D, s, p', c) ∧ wp q g n D p' s ∧ frp p p' [900, 901] ∧ fk p c n p' c [900, 901]) := by
  refine tt_k 10 (S' := (18, [some (.inr (.inl 9)), some (.inr (.inl (p 900)))], [], n, D, s, (up (up p 900 (p 901)) 901 (p 900)), c)) rfl ?_
  exact tt_rtv rfl rfl ⟨(up (up p 900 (p 901)) 901 (p 900)), rfl, rfl, (wp_sw9 hW), (frp_up (by decide) (frp_up (by decide) frp_rf)), (fk_sw (k := 900) (j := 901) (fk_rf hD) (by decide))⟩
