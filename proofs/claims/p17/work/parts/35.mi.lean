/-! runs that end so that something holds; steps ahead of them -/
def mi_cz (Zi : Nat → Option (Nat × (Nat → Int))) (j : Nat) : Option (Nat × (Nat → Int32)) := match Zi j with
  | some (m, f) => some (m, fun i => Int32.ofInt (f i))
  | none => none
theorem mi_cz_ok {Zi : Nat → Option (Nat × (Nat → Int))} : ∀ j m f, Zi j = some (m, f) → mi_cz Zi j = some (m, fun i => Int32.ofInt (f i)) := by
  intro j m f h
  unfold mi_cz
  rw [h]
def tt (Zi : Nat → Option (Nat × (Nat → Int))) (d M : Nat) (S : mi_S) (Q : mi_Rs → mi_H → Prop) : Prop := ∃ k r H, mm_ex (mm_act (mi_cz Zi)) mm_hand k d M (mi_cS S) = some (mi_cr r, mi_mk H) ∧ Q r H
/-- what is left to do behind a call -/
def tt_aft (Zi : Nat → Option (Nat × (Nat → Int))) (d M pc : Nat) (ls : List (Option mi_V)) (rest : List mi_V) (Q : mi_Rs → mi_H → Prop) (r : mi_Rs) (w : mi_H) : Prop := match r with
  | .inl v => tt Zi d M (pc + 3, ls, v.toList ++ rest, w) Q
  | .inr x => match mm_hand M pc x with
    | some h => tt Zi d M (h, ls, [.inr (.inl (47 + w.1))], w) Q
    | none => Q (.inr x) w
section MTT
variable {Zi : Nat → Option (Nat × (Nat → Int))} {d M pc len : Nat} {ls : List (Option mi_V)} {st : List mi_V} {n : Nat} {D : Nat → Nat × Nat} {s : Nat → Int} {p : Nat → Nat} {c : Nat → Nat → Int} {Q : mi_Rs → mi_H → Prop}
theorem tt_st {S S' : mi_S} (h : mi_act Zi M S = some (.inl S')) (g : tt Zi d M S' Q) : tt Zi d M S Q := by
  obtain ⟨k, r, H, h1, h2⟩ := g
  refine ⟨k + 1, r, H, ?_, h2⟩
  rw [mm_ex]
  simp only [mi_act_ok mi_cz_ok h, mi_cA]
  exact h1
/-- so many steps of the method itself, no call among them -/
noncomputable def mi_nst (Zi : Nat → Option (Nat × (Nat → Int))) : Nat → Nat → mi_S → Option mi_S
  | 0, _, S => some S
  | k + 1, M, S => match mi_act Zi M S with
    | some (.inl S') => mi_nst Zi k M S'
    | _ => none
theorem tt_k : ∀ (k : Nat) {S S' : mi_S}, mi_nst Zi k M S = some S' → tt Zi d M S' Q → tt Zi d M S Q := by
  intro k
  induction k with
  | zero => intro S S' h g; cases h; exact g
  | succ k ih =>
    intro S S' h g
    rw [mi_nst] at h
    rcases ha : mi_act Zi M S with _ | (S1 | (r1 | q))
    · simp only [ha] at h; cases h
    · simp only [ha] at h
      exact tt_st ha (ih h g)
    · simp only [ha] at h; cases h
    · simp only [ha] at h; cases h
def mi_okd (d : Nat) (r : mi_Rs) : Bool := match r with
  | .inl _ => true
  | .inr _ => Nat.ble 3 d
theorem mi_okd_ok (d : Nat) (r : mi_Rs) : mm_okd d (mi_cr r) = mi_okd d r := by
  rcases r with v | x <;> rfl
theorem tt_fn {S : mi_S} {v : mi_Rs} {w : mi_H} (h : mi_act Zi M S = some (.inr (.inl (v, w)))) (hd : mi_okd d v = true) (g : Q v w) : tt Zi d M S Q := by
  refine ⟨1, v, w, ?_, g⟩
  rw [mm_ex]
  simp only [mi_act_ok mi_cz_ok h, mi_cA]
  rw [mi_okd_ok, if_pos hd]
theorem tt_mono {S : mi_S} {Q' : mi_Rs → mi_H → Prop} (h : tt Zi d M S Q') (g : ∀ v w, Q' v w → Q v w) : tt Zi d M S Q := by
  obtain ⟨k, r, H, h1, h2⟩ := h
  exact ⟨k, r, H, h1, g _ _ h2⟩
/-- only what a number is modulo 2^32 counts -/
theorem tt_wr {x y : Int} {H : mi_H} (e : Int32.ofInt x = Int32.ofInt y) (g : tt Zi d M (pc, ls, .inl y :: st, H) Q) : tt Zi d M (pc, ls, .inl x :: st, H) Q := by
  have e2 : mi_cS (pc, ls, .inl x :: st, H) = mi_cS (pc, ls, .inl y :: st, H) := by
    show (pc, mi_cl ls, Value.int (Int32.ofInt x) :: mi_cs st, mi_mk H) = (pc, mi_cl ls, Value.int (Int32.ofInt y) :: mi_cs st, mi_mk H)
    rw [e]
  unfold tt at g ⊢
  rw [e2]
  exact g
theorem tt_wn {x : Int} {H : mi_H} (g : ∀ y, (-2147483648 ≤ y ∧ y ≤ 2147483647) → ((-2147483648 ≤ x ∧ x ≤ 2147483647) → y = x) → tt Zi d M (pc, ls, .inl y :: st, H) Q) : tt Zi d M (pc, ls, .inl x :: st, H) Q := by
  refine tt_wr (y := (Int32.ofInt x).toInt) (Int32.ofInt_toInt _).symm (g _ ⟨Int32.le_toInt _, ?_⟩ (fun h => mi_ti h))
  have := Int32.toInt_lt (Int32.ofInt x)
  omega
theorem tt_cl {T : Nat} {ls0 : List (Option mi_V)} {rest : List mi_V} {H : mi_H} {Q' : mi_Rs → mi_H → Prop} (hd : 1 ≤ d) (h : mi_act Zi M (pc, ls, st, H) = some (.inr (.inr (T, ls0, rest)))) (hc : tt Zi (d - 1) T (0, ls0, [], H) Q') (g : ∀ r w1, Q' r w1 → tt_aft Zi d M pc ls rest Q r w1) : tt Zi d M (pc, ls, st, H) Q := by
  obtain ⟨d, rfl⟩ : ∃ e, d = e + 1 := ⟨d - 1, by omega⟩
  obtain ⟨k, r, w1, h1, h2⟩ := hc
  have h1 : mm_ex (mm_act (mi_cz Zi)) mm_hand k d T (0, mi_cl ls0, [], mi_mk H) = some (mi_cr r, mi_mk w1) := h1
  have h0 := mi_act_ok (Z := mi_cz Zi) mi_cz_ok h
  have h0 : mm_act (mi_cz Zi) M (pc, mi_cl ls, mi_cs st, mi_mk H) = some (.inr (.inr (T, mi_cl ls0, mi_cs rest))) := h0
  have h3 := g r w1 h2
  cases r with
  | inl v =>
    obtain ⟨k2, r2, H2, h4, h5⟩ := h3
    refine ⟨max k k2 + 1, r2, H2, ?_, h5⟩
    show mm_ex (mm_act (mi_cz Zi)) mm_hand (max k k2 + 1) (d + 1) M (pc, mi_cl ls, mi_cs st, mi_mk H) = _
    rw [mm_ex]
    simp only [h0]
    rw [mm_ex_le _ _ h1 (Nat.le_max_left k k2)]
    have e2 : mi_cS (pc + 3, ls, v.toList ++ rest, w1) = (pc + 3, mi_cl ls, (v.map mi_cv).toList ++ mi_cs rest, mi_mk w1) := by
      unfold mi_cS mi_cs
      cases v <;> rfl
    rw [e2] at h4
    exact mm_ex_le _ _ h4 (Nat.le_max_right k k2)
  | inr x =>
    unfold tt_aft at h3
    dsimp only at h3
    cases hh : mm_hand M pc x with
    | some hp =>
      rw [hh] at h3
      obtain ⟨k2, r2, H2, h4, h5⟩ := h3
      refine ⟨max k k2 + 1, r2, H2, ?_, h5⟩
      show mm_ex (mm_act (mi_cz Zi)) mm_hand (max k k2 + 1) (d + 1) M (pc, mi_cl ls, mi_cs st, mi_mk H) = _
      rw [mm_ex]
      simp only [h0]
      rw [mm_ex_le _ _ h1 (Nat.le_max_left k k2)]
      have e2 : mi_cS (hp, ls, [.inr (.inl (47 + w1.1))], w1) = (hp, mi_cl ls, [.ref ((mi_mk w1).length - 1)], mi_mk w1) := by
        rw [mi_mk_len, show 48 + w1.1 - 1 = 47 + w1.1 by omega]
        rfl
      rw [e2] at h4
      show (match mm_hand M pc x with
        | some h => mm_ex (mm_act (mi_cz Zi)) mm_hand (max k k2) (d + 1) M (h, mi_cl ls, [.ref ((mi_mk w1).length - 1)], mi_mk w1)
        | none => some (.inr x, mi_mk w1)) = _
      rw [hh]
      exact mm_ex_le _ _ h4 (Nat.le_max_right k k2)
    | none =>
      rw [hh] at h3
      refine ⟨k + 1, .inr x, w1, ?_, h3⟩
      show mm_ex (mm_act (mi_cz Zi)) mm_hand (k + 1) (d + 1) M (pc, mi_cl ls, mi_cs st, mi_mk H) = _
      rw [mm_ex]
      simp only [h0]
      rw [h1]
      show (match mm_hand M pc x with
        | some h => mm_ex (mm_act (mi_cz Zi)) mm_hand k (d + 1) M (h, mi_cl ls, [.ref ((mi_mk w1).length - 1)], mi_mk w1)
        | none => some (.inr x, mi_mk w1)) = _
      rw [hh]
      rfl
/-! branches -/
theorem tt_b2 {cd : Jvm.ClassFile.Cond} {off : Int} {tgt : Nat} {x y : Int} {H : mi_H} (hk : mm_kT M pc = some (.if_icmp cd off, len)) (ht : mi_jump pc off ls st = some (tgt, ls, st)) (hr : (-2147483648 ≤ x ∧ x ≤ 2147483647) ∧ (-2147483648 ≤ y ∧ y ≤ 2147483647)) (g1 : mi_cmp cd x y = true → tt Zi d M (tgt, ls, st, H) Q) (g0 : mi_cmp cd x y = false → tt Zi d M (pc + 3, ls, st, H) Q) : tt Zi d M (pc, ls, .inl y :: .inl x :: st, H) Q := by
  cases hb : mi_cmp cd x y with
  | true =>
    refine tt_st (S' := (tgt, ls, st, H)) ?_ (g1 hb)
    unfold mi_act
    simp only [hk, mi_pure, mi_if2, if_pos hr, mi_br, ht, hb]
    rfl
  | false =>
    refine tt_st (S' := (pc + 3, ls, st, H)) ?_ (g0 hb)
    unfold mi_act
    simp only [hk, mi_pure, mi_if2, if_pos hr, mi_br, ht, hb]
    rfl
theorem tt_b1 {cd : Jvm.ClassFile.Cond} {off : Int} {tgt : Nat} {x : Int} {H : mi_H} (hk : mm_kT M pc = some (.ifCond cd off, len)) (ht : mi_jump pc off ls st = some (tgt, ls, st)) (hr : -2147483648 ≤ x ∧ x ≤ 2147483647) (g1 : mi_cmp cd x 0 = true → tt Zi d M (tgt, ls, st, H) Q) (g0 : mi_cmp cd x 0 = false → tt Zi d M (pc + 3, ls, st, H) Q) : tt Zi d M (pc, ls, .inl x :: st, H) Q := by
  cases hb : mi_cmp cd x 0 with
  | true =>
    refine tt_st (S' := (tgt, ls, st, H)) ?_ (g1 hb)
    unfold mi_act
    simp only [hk, mi_pure, mi_if1, if_pos hr, mi_br, ht, hb]
    rfl
  | false =>
    refine tt_st (S' := (pc + 3, ls, st, H)) ?_ (g0 hb)
    unfold mi_act
    simp only [hk, mi_pure, mi_if1, if_pos hr, mi_br, ht, hb]
    rfl
end MTT
section MTC
variable {x y : Int}
theorem tc_lt1 (h : mi_cmp .lt x y = true) : x < y := of_decide_eq_true h
theorem tc_lt0 (h : mi_cmp .lt x y = false) : y ≤ x := Int.not_lt.mp (of_decide_eq_false h)
theorem tc_ge1 (h : mi_cmp .ge x y = true) : y ≤ x := of_decide_eq_true h
theorem tc_ge0 (h : mi_cmp .ge x y = false) : x < y := Int.not_le.mp (of_decide_eq_false h)
theorem tc_gt1 (h : mi_cmp .gt x y = true) : y < x := of_decide_eq_true h
theorem tc_gt0 (h : mi_cmp .gt x y = false) : x ≤ y := Int.not_lt.mp (of_decide_eq_false h)
theorem tc_le1 (h : mi_cmp .le x y = true) : x ≤ y := of_decide_eq_true h
theorem tc_le0 (h : mi_cmp .le x y = false) : y < x := Int.not_le.mp (of_decide_eq_false h)
theorem tc_eq1 (h : mi_cmp .eq x y = true) : x = y := of_decide_eq_true h
theorem tc_eq0 (h : mi_cmp .eq x y = false) : x ≠ y := of_decide_eq_false h
theorem tc_ne1 (h : mi_cmp .ne x y = true) : x ≠ y := by
  intro e
  subst e
  simp [mi_cmp] at h
theorem tc_ne0 (h : mi_cmp .ne x y = false) : x = y := by
  have h2 : (!decide (x = y)) = false := h
  cases hq : decide (x = y) with
  | true => exact of_decide_eq_true hq
  | false => rw [hq] at h2; cases h2
end MTC
section MTB
variable {Zi : Nat → Option (Nat × (Nat → Int))} {d M pc len tgt : Nat} {off : Int} {ls : List (Option mi_V)} {st : List mi_V} {H : mi_H} {Q : mi_Rs → mi_H → Prop} {x y : Int}
theorem tb_lt (hk : mm_kT M pc = some (.if_icmp .lt off, len)) (ht : mi_jump pc off ls st = some (tgt, ls, st)) (hr : (-2147483648 ≤ x ∧ x ≤ 2147483647) ∧ (-2147483648 ≤ y ∧ y ≤ 2147483647)) (g1 : x < y → tt Zi d M (tgt, ls, st, H) Q) (g0 : y ≤ x → tt Zi d M (pc + 3, ls, st, H) Q) : tt Zi d M (pc, ls, .inl y :: .inl x :: st, H) Q := tt_b2 hk ht hr (fun h => g1 (tc_lt1 h)) (fun h => g0 (tc_lt0 h))
theorem tb_ge (hk : mm_kT M pc = some (.if_icmp .ge off, len)) (ht : mi_jump pc off ls st = some (tgt, ls, st)) (hr : (-2147483648 ≤ x ∧ x ≤ 2147483647) ∧ (-2147483648 ≤ y ∧ y ≤ 2147483647)) (g1 : y ≤ x → tt Zi d M (tgt, ls, st, H) Q) (g0 : x < y → tt Zi d M (pc + 3, ls, st, H) Q) : tt Zi d M (pc, ls, .inl y :: .inl x :: st, H) Q := tt_b2 hk ht hr (fun h => g1 (tc_ge1 h)) (fun h => g0 (tc_ge0 h))
theorem tb_gt (hk : mm_kT M pc = some (.if_icmp .gt off, len)) (ht : mi_jump pc off ls st = some (tgt, ls, st)) (hr : (-2147483648 ≤ x ∧ x ≤ 2147483647) ∧ (-2147483648 ≤ y ∧ y ≤ 2147483647)) (g1 : y < x → tt Zi d M (tgt, ls, st, H) Q) (g0 : x ≤ y → tt Zi d M (pc + 3, ls, st, H) Q) : tt Zi d M (pc, ls, .inl y :: .inl x :: st, H) Q := tt_b2 hk ht hr (fun h => g1 (tc_gt1 h)) (fun h => g0 (tc_gt0 h))
theorem tb_le (hk : mm_kT M pc = some (.if_icmp .le off, len)) (ht : mi_jump pc off ls st = some (tgt, ls, st)) (hr : (-2147483648 ≤ x ∧ x ≤ 2147483647) ∧ (-2147483648 ≤ y ∧ y ≤ 2147483647)) (g1 : x ≤ y → tt Zi d M (tgt, ls, st, H) Q) (g0 : y < x → tt Zi d M (pc + 3, ls, st, H) Q) : tt Zi d M (pc, ls, .inl y :: .inl x :: st, H) Q := tt_b2 hk ht hr (fun h => g1 (tc_le1 h)) (fun h => g0 (tc_le0 h))
theorem tb_eq (hk : mm_kT M pc = some (.if_icmp .eq off, len)) (ht : mi_jump pc off ls st = some (tgt, ls, st)) (hr : (-2147483648 ≤ x ∧ x ≤ 2147483647) ∧ (-2147483648 ≤ y ∧ y ≤ 2147483647)) (g1 : x = y → tt Zi d M (tgt, ls, st, H) Q) (g0 : x ≠ y → tt Zi d M (pc + 3, ls, st, H) Q) : tt Zi d M (pc, ls, .inl y :: .inl x :: st, H) Q := tt_b2 hk ht hr (fun h => g1 (tc_eq1 h)) (fun h => g0 (tc_eq0 h))
theorem tb_ne (hk : mm_kT M pc = some (.if_icmp .ne off, len)) (ht : mi_jump pc off ls st = some (tgt, ls, st)) (hr : (-2147483648 ≤ x ∧ x ≤ 2147483647) ∧ (-2147483648 ≤ y ∧ y ≤ 2147483647)) (g1 : x ≠ y → tt Zi d M (tgt, ls, st, H) Q) (g0 : x = y → tt Zi d M (pc + 3, ls, st, H) Q) : tt Zi d M (pc, ls, .inl y :: .inl x :: st, H) Q := tt_b2 hk ht hr (fun h => g1 (tc_ne1 h)) (fun h => g0 (tc_ne0 h))
theorem tz_lt (hk : mm_kT M pc = some (.ifCond .lt off, len)) (ht : mi_jump pc off ls st = some (tgt, ls, st)) (hr : -2147483648 ≤ x ∧ x ≤ 2147483647) (g1 : x < 0 → tt Zi d M (tgt, ls, st, H) Q) (g0 : 0 ≤ x → tt Zi d M (pc + 3, ls, st, H) Q) : tt Zi d M (pc, ls, .inl x :: st, H) Q := tt_b1 hk ht hr (fun h => g1 (tc_lt1 h)) (fun h => g0 (tc_lt0 h))
theorem tz_ge (hk : mm_kT M pc = some (.ifCond .ge off, len)) (ht : mi_jump pc off ls st = some (tgt, ls, st)) (hr : -2147483648 ≤ x ∧ x ≤ 2147483647) (g1 : 0 ≤ x → tt Zi d M (tgt, ls, st, H) Q) (g0 : x < 0 → tt Zi d M (pc + 3, ls, st, H) Q) : tt Zi d M (pc, ls, .inl x :: st, H) Q := tt_b1 hk ht hr (fun h => g1 (tc_ge1 h)) (fun h => g0 (tc_ge0 h))
theorem tz_gt (hk : mm_kT M pc = some (.ifCond .gt off, len)) (ht : mi_jump pc off ls st = some (tgt, ls, st)) (hr : -2147483648 ≤ x ∧ x ≤ 2147483647) (g1 : 0 < x → tt Zi d M (tgt, ls, st, H) Q) (g0 : x ≤ 0 → tt Zi d M (pc + 3, ls, st, H) Q) : tt Zi d M (pc, ls, .inl x :: st, H) Q := tt_b1 hk ht hr (fun h => g1 (tc_gt1 h)) (fun h => g0 (tc_gt0 h))
theorem tz_le (hk : mm_kT M pc = some (.ifCond .le off, len)) (ht : mi_jump pc off ls st = some (tgt, ls, st)) (hr : -2147483648 ≤ x ∧ x ≤ 2147483647) (g1 : x ≤ 0 → tt Zi d M (tgt, ls, st, H) Q) (g0 : 0 < x → tt Zi d M (pc + 3, ls, st, H) Q) : tt Zi d M (pc, ls, .inl x :: st, H) Q := tt_b1 hk ht hr (fun h => g1 (tc_le1 h)) (fun h => g0 (tc_le0 h))
theorem tz_eq (hk : mm_kT M pc = some (.ifCond .eq off, len)) (ht : mi_jump pc off ls st = some (tgt, ls, st)) (hr : -2147483648 ≤ x ∧ x ≤ 2147483647) (g1 : x = 0 → tt Zi d M (tgt, ls, st, H) Q) (g0 : x ≠ 0 → tt Zi d M (pc + 3, ls, st, H) Q) : tt Zi d M (pc, ls, .inl x :: st, H) Q := tt_b1 hk ht hr (fun h => g1 (tc_eq1 h)) (fun h => g0 (tc_eq0 h))
theorem tz_ne (hk : mm_kT M pc = some (.ifCond .ne off, len)) (ht : mi_jump pc off ls st = some (tgt, ls, st)) (hr : -2147483648 ≤ x ∧ x ≤ 2147483647) (g1 : x ≠ 0 → tt Zi d M (tgt, ls, st, H) Q) (g0 : x = 0 → tt Zi d M (pc + 3, ls, st, H) Q) : tt Zi d M (pc, ls, .inl x :: st, H) Q := tt_b1 hk ht hr (fun h => g1 (tc_ne1 h)) (fun h => g0 (tc_ne0 h))
end MTB
/-! rows, division, numbers, the ends -/
section MTA
variable {Zi : Nat → Option (Nat × (Nat → Int))} {d M pc len : Nat} {ls : List (Option mi_V)} {st : List mi_V} {n : Nat} {D : Nat → Nat × Nat} {s : Nat → Int} {p : Nat → Nat} {c : Nat → Nat → Int} {Q : mi_Rs → mi_H → Prop} {a m : Nat} {i x y : Int}
theorem tt_ild (hk : mm_kT M pc = some (.iaload, len)) (ha : mi_arr n D a = some (0, m)) (hi : 0 ≤ i ∧ i < m ∧ i ≤ 2147483647) (g : tt Zi d M (pc + 1, ls, .inl (c a i.toNat) :: st, n, D, s, p, c) Q) : tt Zi d M (pc, ls, .inl i :: .inr (.inl a) :: st, n, D, s, p, c) Q := by
  refine tt_st (S' := (pc + 1, ls, .inl (c a i.toNat) :: st, n, D, s, p, c)) ?_ g
  unfold mi_act
  simp only [hk, mi_aIld, ha, if_pos hi]
theorem tt_ildv {v : Int} (hk : mm_kT M pc = some (.iaload, len)) (ha : mi_arr n D a = some (0, m)) (hi : 0 ≤ i ∧ i < m ∧ i ≤ 2147483647) (hv : c a i.toNat = v) (g : tt Zi d M (pc + 1, ls, .inl v :: st, n, D, s, p, c) Q) : tt Zi d M (pc, ls, .inl i :: .inr (.inl a) :: st, n, D, s, p, c) Q := by
  subst hv
  exact tt_ild hk ha hi g
theorem tt_old {f : Nat → Int} {H : mi_H} (hk : mm_kT M pc = some (.iaload, len)) (ha : mi_arr H.1 H.2.1 a = none) (ho : mi_old Zi a = some (m, f)) (hi : 0 ≤ i ∧ i < m ∧ i ≤ 2147483647) (g : tt Zi d M (pc + 1, ls, .inl (f i.toNat) :: st, H) Q) : tt Zi d M (pc, ls, .inl i :: .inr (.inl a) :: st, H) Q := by
  refine tt_st (S' := (pc + 1, ls, .inl (f i.toNat) :: st, H)) ?_ g
  unfold mi_act
  simp only [hk, mi_aIld, ha, ho, if_pos hi]
theorem tt_bld (hk : mm_kT M pc = some (.baload, len)) (ha : mi_arr n D a = some (1, m)) (hi : 0 ≤ i ∧ i < m ∧ i ≤ 2147483647) (g : tt Zi d M (pc + 1, ls, .inl (c a i.toNat) :: st, n, D, s, p, c) Q) : tt Zi d M (pc, ls, .inl i :: .inr (.inl a) :: st, n, D, s, p, c) Q := by
  refine tt_st (S' := (pc + 1, ls, .inl (c a i.toNat) :: st, n, D, s, p, c)) ?_ g
  unfold mi_act
  simp only [hk, mi_aBld, ha, if_pos hi]
theorem tt_bldv {v : Int} (hk : mm_kT M pc = some (.baload, len)) (ha : mi_arr n D a = some (1, m)) (hi : 0 ≤ i ∧ i < m ∧ i ≤ 2147483647) (hv : c a i.toNat = v) (g : tt Zi d M (pc + 1, ls, .inl v :: st, n, D, s, p, c) Q) : tt Zi d M (pc, ls, .inl i :: .inr (.inl a) :: st, n, D, s, p, c) Q := by
  subst hv
  exact tt_bld hk ha hi g
theorem ua_eq {f : Nat → Int} {k : Nat} {v : Int} : ua f k v k = v := if_pos rfl
theorem ua_ne {f : Nat → Int} {k j : Nat} {v : Int} (h : j ≠ k) : ua f k v j = f j := if_neg h
theorem tt_ist (hk : mm_kT M pc = some (.iastore, len)) (ha : mi_arr n D a = some (0, m)) (hi : 0 ≤ i ∧ i < m ∧ i ≤ 2147483647) (g : tt Zi d M (pc + 1, ls, st, n, D, s, p, uc c a (ua (c a) i.toNat x)) Q) : tt Zi d M (pc, ls, .inl x :: .inl i :: .inr (.inl a) :: st, n, D, s, p, c) Q := by
  refine tt_st (S' := (pc + 1, ls, st, n, D, s, p, uc c a (ua (c a) i.toNat x))) ?_ g
  unfold mi_act
  simp only [hk, mi_aIst, ha, if_pos hi]
theorem tt_bst (hk : mm_kT M pc = some (.bastore, len)) (ha : mi_arr n D a = some (1, m)) (hi : 0 ≤ i ∧ i < m ∧ i ≤ 2147483647) (g : tt Zi d M (pc + 1, ls, st, n, D, s, p, uc c a (ua (c a) i.toNat (mi_nb x))) Q) : tt Zi d M (pc, ls, .inl x :: .inl i :: .inr (.inl a) :: st, n, D, s, p, c) Q := by
  refine tt_st (S' := (pc + 1, ls, st, n, D, s, p, uc c a (ua (c a) i.toNat (mi_nb x)))) ?_ g
  unfold mi_act
  simp only [hk, mi_aBst, ha, if_pos hi]
theorem tt_len {t : Nat} (hk : mm_kT M pc = some (.arraylength, len)) (ha : mi_arr n D a = some (t, m)) (ht : Nat.ble t 2 = true) (g : tt Zi d M (pc + 1, ls, .inl (m : Int) :: st, n, D, s, p, c) Q) : tt Zi d M (pc, ls, .inr (.inl a) :: st, n, D, s, p, c) Q := by
  refine tt_st (S' := (pc + 1, ls, .inl (m : Int) :: st, n, D, s, p, c)) ?_ g
  unfold mi_act
  simp only [hk, mi_aLen, ha, ht, cond]
theorem tt_nwa {t : ArrayType} {k : Nat} (hk : mm_kT M pc = some (.newarray t, len)) (ht : mi_tg t = some k) (hx : 0 ≤ x ∧ x ≤ 60000000 ∧ 48 + n < 1000000) (g : tt Zi d M (pc + 2, ls, .inr (.inl (48 + n)) :: st, n + 1, ud D (48 + n) (k, x.toNat), s, p, uc c (48 + n) (fun _ => 0)) Q) : tt Zi d M (pc, ls, .inl x :: st, n, D, s, p, c) Q := by
  refine tt_st (S' := (pc + 2, ls, .inr (.inl (48 + n)) :: st, n + 1, ud D (48 + n) (k, x.toNat), s, p, uc c (48 + n) (fun _ => 0))) ?_ g
  unfold mi_act
  simp only [hk, mi_aNwa, ht, if_pos hx]
theorem tt_div {H : mi_H} (hk : mm_kT M pc = some (.idiv, len)) (hr : (-2147483648 ≤ x ∧ x ≤ 2147483647) ∧ 0 < y ∧ y ≤ 2147483647) (g : tt Zi d M (pc + 1, ls, .inl (x.tdiv y) :: st, H) Q) : tt Zi d M (pc, ls, .inl y :: .inl x :: st, H) Q := by
  refine tt_st (S' := (pc + 1, ls, .inl (x.tdiv y) :: st, H)) ?_ g
  unfold mi_act
  simp only [hk, mi_pure, mi_div, if_pos hr]
/-- the dividend is not below 0 -/
theorem tt_dvp {H : mi_H} (hk : mm_kT M pc = some (.idiv, len)) (hr : (0 ≤ x ∧ x ≤ 2147483647) ∧ 0 < y ∧ y ≤ 2147483647) (g : tt Zi d M (pc + 1, ls, .inl (x / y) :: st, H) Q) : tt Zi d M (pc, ls, .inl y :: .inl x :: st, H) Q := by
  refine tt_div hk (by omega) ?_
  rw [Int.tdiv_eq_ediv_of_nonneg hr.1.1]
  exact g
theorem tt_rmp {H : mi_H} (hk : mm_kT M pc = some (.irem, len)) (hr : (0 ≤ x ∧ x ≤ 2147483647) ∧ 0 < y ∧ y ≤ 2147483647) (g : tt Zi d M (pc + 1, ls, .inl (x % y) :: st, H) Q) : tt Zi d M (pc, ls, .inl y :: .inl x :: st, H) Q := by
  have e : x - x.tdiv y * y = x % y := by
    rw [Int.tdiv_eq_ediv_of_nonneg hr.1.1, Int.emod_def, Int.mul_comm]
  refine tt_st (S' := (pc + 1, ls, .inl (x - x.tdiv y * y) :: st, H)) ?_ (by rw [e]; exact g)
  unfold mi_act
  simp only [hk, mi_pure, mi_div]
  rw [if_pos ⟨⟨by omega, by omega⟩, hr.2⟩]
theorem tt_i2l {H : mi_H} (hk : mm_kT M pc = some (.i2l, len)) (hr : -2147483648 ≤ x ∧ x ≤ 2147483647) (g : tt Zi d M (pc + 1, ls, .inr (.inr x) :: st, H) Q) : tt Zi d M (pc, ls, .inl x :: st, H) Q := by
  refine tt_st (S' := (pc + 1, ls, .inr (.inr x) :: st, H)) ?_ g
  unfold mi_act
  simp only [hk, mi_pure, mi_i2l, if_pos hr]
theorem tt_lst (hk : mm_kT M pc = some (.lastore, len)) (ha : mi_arr n D a = some (2, m)) (hi : 0 ≤ i ∧ i < m ∧ i ≤ 2147483647) (g : tt Zi d M (pc + 1, ls, st, n, D, s, p, uc c a (ua (c a) i.toNat x)) Q) : tt Zi d M (pc, ls, .inr (.inr x) :: .inl i :: .inr (.inl a) :: st, n, D, s, p, c) Q := by
  refine tt_st (S' := (pc + 1, ls, st, n, D, s, p, uc c a (ua (c a) i.toNat x))) ?_ g
  unfold mi_act
  simp only [hk, mi_aLst, ha, if_pos hi]
theorem tt_max {H : mi_H} {ix k q q2 : Nat} {tg : List (Nat × Nat × List Nat)} (hk : mm_kT M pc = some (.invokestatic ix, len)) (hi : mm_lk (mm_ip (mm_mt M).2.1) ix = some (10, q, q2, tg)) (hc : mi_cats st ≤ 8) (hr : (-2147483648 ≤ x ∧ x ≤ 2147483647) ∧ (-2147483648 ≤ y ∧ y ≤ 2147483647)) (g : tt Zi d M (pc + 3, ls, .inl (max x y) :: st, H) Q) : tt Zi d M (pc, ls, .inl y :: .inl x :: st, H) Q := by
  refine tt_st (S' := (pc + 3, ls, .inl (max x y) :: st, H)) ?_ g
  unfold mi_act
  simp only [hk, mi_aStc, hi]
  show (if mi_cats st ≤ 8 ∧ (-2147483648 ≤ x ∧ x ≤ 2147483647) ∧ (-2147483648 ≤ y ∧ y ≤ 2147483647) then some (Sum.inl (pc + 3, ls, Sum.inl (max x y) :: st, H)) else none) = _
  rw [if_pos ⟨hc, hr⟩]
theorem tt_min {H : mi_H} {ix k q q2 : Nat} {tg : List (Nat × Nat × List Nat)} (hk : mm_kT M pc = some (.invokestatic ix, len)) (hi : mm_lk (mm_ip (mm_mt M).2.1) ix = some (11, q, q2, tg)) (hc : mi_cats st ≤ 8) (hr : (-2147483648 ≤ x ∧ x ≤ 2147483647) ∧ (-2147483648 ≤ y ∧ y ≤ 2147483647)) (g : tt Zi d M (pc + 3, ls, .inl (min x y) :: st, H) Q) : tt Zi d M (pc, ls, .inl y :: .inl x :: st, H) Q := by
  refine tt_st (S' := (pc + 3, ls, .inl (min x y) :: st, H)) ?_ g
  unfold mi_act
  simp only [hk, mi_aStc, hi]
  show (if mi_cats st ≤ 8 ∧ (-2147483648 ≤ x ∧ x ≤ 2147483647) ∧ (-2147483648 ≤ y ∧ y ≤ 2147483647) then some (Sum.inl (pc + 3, ls, Sum.inl (min x y) :: st, H)) else none) = _
  rw [if_pos ⟨hc, hr⟩]
theorem tt_abs {H : mi_H} {ix k q q2 : Nat} {tg : List (Nat × Nat × List Nat)} (hk : mm_kT M pc = some (.invokestatic ix, len)) (hi : mm_lk (mm_ip (mm_mt M).2.1) ix = some (12, q, q2, tg)) (hc : mi_cats st ≤ 8) (hr : -2147483647 ≤ x ∧ x ≤ 2147483647) (g : tt Zi d M (pc + 3, ls, .inl (if 0 ≤ x then x else -x) :: st, H) Q) : tt Zi d M (pc, ls, .inl x :: st, H) Q := by
  refine tt_st (S' := (pc + 3, ls, .inl (if 0 ≤ x then x else -x) :: st, H)) ?_ g
  unfold mi_act
  simp only [hk, mi_aStc, hi]
  show (if mi_cats st ≤ 8 ∧ (-2147483647 ≤ x ∧ x ≤ 2147483647) then some (Sum.inl (pc + 3, ls, Sum.inl (if 0 ≤ x then x else -x) :: st, H)) else none) = _
  rw [if_pos ⟨hc, hr⟩]
theorem tt_cpy {ix q q2 t n0 n1 b : Nat} {tg : List (Nat × Nat × List Nat)} {k dp sp : Int} (hk : mm_kT M pc = some (.invokestatic ix, len)) (hi : mm_lk (mm_ip (mm_mt M).2.1) ix = some (13, q, q2, tg)) (ha : mi_arr n D a = some (t, n0)) (hb : mi_arr n D b = some (t, n1)) (ht : t < 2) (hc : mi_cats st ≤ 8) (hr : 0 ≤ sp ∧ 0 ≤ dp ∧ 0 ≤ k ∧ sp + k ≤ n0 ∧ dp + k ≤ n1 ∧ k ≤ 1000000 ∧ sp ≤ 1000000 ∧ dp ≤ 1000000) (hf : t = 0 ∨ ∀ i, i < k.toNat → -128 ≤ c a (sp.toNat + i) ∧ c a (sp.toNat + i) ≤ 127) (g : tt Zi d M (pc + 3, ls, st, n, D, s, p, uc c b (va_cpy (c a) (c b) sp.toNat dp.toNat k.toNat)) Q) : tt Zi d M (pc, ls, .inl k :: .inl dp :: .inr (.inl b) :: .inl sp :: .inr (.inl a) :: st, n, D, s, p, c) Q := by
  refine tt_st (S' := (pc + 3, ls, st, n, D, s, p, uc c b (va_cpy (c a) (c b) sp.toNat dp.toNat k.toNat))) ?_ g
  unfold mi_act
  simp only [hk, mi_aStc, hi]
  show mi_aCpy pc ls (.inl k :: .inl dp :: .inr (.inl b) :: .inl sp :: .inr (.inl a) :: st) (n, D, s, p, c) = _
  unfold mi_aCpy
  simp only [ha, hb]
  rw [if_pos ⟨trivial, ht, hr.1, hr.2.1, hr.2.2.1, hr.2.2.2.1, hr.2.2.2.2.1, hr.2.2.2.2.2.1, hr.2.2.2.2.2.2.1, hr.2.2.2.2.2.2.2, hf, hc⟩]
theorem tt_ptb {ix k cj : Nat} (hk : mm_kT M pc = some (.putfield ix, len)) (ho : mi_ob a = some cj) (hf : mm_fldF (mm_mt M).2.1 ix cj = some k) (hn : Nat.ble (k + 1) (mm_N cj) = true) (ht : mi_ft cj k = 1) (hx : x = 0 ∨ x = 1) (g : tt Zi d M (pc + 3, ls, st, n, D, us s (100 * a + k) x, p, c) Q) : tt Zi d M (pc, ls, .inl x :: .inr (.inl a) :: st, n, D, s, p, c) Q := by
  refine tt_st (S' := (pc + 3, ls, st, n, D, us s (100 * a + k) x, p, c)) ?_ g
  unfold mi_act
  simp only [hk, mi_aPut, ho, hf, hn, ht, cond]
  show (if x = 0 ∨ x = 1 then some (Sum.inl (pc + 3, ls, st, n, D, us s (100 * a + k) x, p, c)) else none) = _
  rw [if_pos hx]
theorem tt_rtb {H : mi_H} (hk : mm_kT M pc = some (.ireturn, len)) (hr : (mm_mt M).2.2.1 = some .boolean) (hx : x = 0 ∨ x = 1) (g : Q (.inl (some (.inl x))) H) : tt Zi d M (pc, ls, [.inl x], H) Q := by
  refine tt_fn (v := .inl (some (.inl x))) (w := H) ?_ rfl g
  unfold mi_act
  simp only [hk]
  rw [if_pos (Or.inr ⟨hr, hx⟩)]
theorem tt_rti {H : mi_H} (hk : mm_kT M pc = some (.ireturn, len)) (hr : (mm_mt M).2.2.1 = some .int) (g : Q (.inl (some (.inl x))) H) : tt Zi d M (pc, ls, [.inl x], H) Q := by
  refine tt_fn (v := .inl (some (.inl x))) (w := H) ?_ rfl g
  unfold mi_act
  simp only [hk]
  rw [if_pos (Or.inl hr)]
theorem tt_rtv {H : mi_H} (hk : mm_kT M pc = some (.return_, len)) (hr : (mm_mt M).2.2.1 = none) (g : Q (.inl none) H) : tt Zi d M (pc, ls, [], H) Q := by
  refine tt_fn (v := .inl none) (w := H) ?_ rfl g
  unfold mi_act
  simp only [hk]
  rw [if_pos hr]
end MTA
