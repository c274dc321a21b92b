/-! rows that walk the small machine with numbers that are not known -/
section MNS
variable (act : Nat → mm_S → Option mm_Ac) (hand : Nat → Nat → Nat → Option Nat)
/-- so many steps of the method itself; its calls have the fuel n -/
def mm_nst : Nat → Nat → Nat → Nat → mm_S → Option mm_S
  | 0, _, _, _, S => some S
  | k + 1, n, d, M, S => match act M S with
    | some (.inl S') => mm_nst k n d M S'
    | some (.inr (.inr q)) => (match d with
      | 0 => none
      | d' + 1 => match mm_ex act hand n d' q.1 (0, q.2.1, [], S.2.2.2) with
        | some (.inl v, w') => mm_nst k n (d' + 1) M (S.1 + 3, S.2.1, v.toList ++ q.2.2, w')
        | some (.inr x, w') => (match hand M S.1 x with
          | some h => mm_nst k n (d' + 1) M (h, S.2.1, [.ref (w'.length - 1)], w')
          | none => none)
        | none => none)
    | _ => none
variable {act hand}
theorem mm_xnst : ∀ (k n d M : Nat) (S S' : mm_S) (r : mm_Rs × mm_W), mm_nst act hand k n d M S = some S' → mm_Ex act hand d M S' r → mm_Ex act hand d M S r := by
  intro k n
  induction k with
  | zero => intro d M S S' r h k; cases h; exact k
  | succ m ih =>
    intro d M S S' r h k
    rw [mm_nst] at h
    rcases ha : act M S with _ | (S1 | (r1 | ⟨T, ls0, rest⟩))
    · simp only [ha] at h; cases h
    · simp only [ha] at h
      exact mm_xstep ha (ih _ _ _ _ _ h k)
    · simp only [ha] at h; cases h
    · cases d with
      | zero => simp only [ha] at h; cases h
      | succ d =>
        simp only [ha] at h
        obtain ⟨pc, ls, st, w⟩ := S
        rcases hc : mm_ex act hand n d T (0, ls0, [], w) with _ | ⟨v | x, w1⟩
        · simp only [hc] at h; cases h
        · simp only [hc] at h
          exact mm_xcall ha ⟨n, hc⟩ (ih _ _ _ _ _ h k)
        · simp only [hc] at h
          rcases hh : hand M pc x with _ | hp
          · simp only [hh] at h; cases h
          · simp only [hh] at h
            exact mm_xcaught ha ⟨n, hc⟩ hh (ih _ _ _ _ _ h k)
end MNS
theorem mm_nst_up {act act' : Nat → mm_S → Option mm_Ac} {hand : Nat → Nat → Nat → Option Nat} (hA : ∀ M S a, act M S = some a → act' M S = some a) : ∀ (k n d M : Nat) (S S' : mm_S), mm_nst act hand k n d M S = some S' → mm_nst act' hand k n d M S = some S' := by
  intro k n
  induction k with
  | zero => intro d M S S' h; exact h
  | succ m ih =>
    intro d M S S' h
    rw [mm_nst] at h ⊢
    rcases ha : act M S with _ | (S1 | (r1 | q))
    · simp only [ha] at h; cases h
    · simp only [ha] at h
      simp only [hA _ _ _ ha]
      exact ih _ _ _ _ h
    · simp only [ha] at h; cases h
    · cases d with
      | zero => simp only [ha] at h; cases h
      | succ d =>
        simp only [ha] at h
        simp only [hA _ _ _ ha]
        rcases hc : mm_ex act hand n d q.1 (0, q.2.1, [], S.2.2.2) with _ | ⟨v | x, w1⟩
        · simp only [hc] at h; cases h
        · simp only [hc] at h
          rw [mm_ex_up hA _ _ _ _ _ hc]
          exact ih _ _ _ _ h
        · simp only [hc] at h
          rw [mm_ex_up hA _ _ _ _ _ hc]
          rcases hh : hand M S.1 x with _ | hp
          · simp only [hh] at h; cases h
          · simp only [hh] at h ⊢; exact ih _ _ _ _ h
abbrev mm_X (Z : Nat → Option (Nat × (Nat → Int32))) (d M : Nat) (S : mm_S) (r : mm_Rs × mm_W) : Prop := mm_Ex (mm_act Z) mm_hand d M S r
section MST
variable {Z : Nat → Option (Nat × (Nat → Int32))} {d M pc : Nat} {ls : List (Option Value)} {st : List Value} {w : mm_W} {r : mm_Rs × mm_W}
theorem mm_xk {S S' : mm_S} (k n : Nat) (h : mm_nst (mm_actF Z) mm_hand k n d M S = some S') (g : mm_X Z d M S' r) : mm_X Z d M S r := mm_xnst k n d M S S' r (mm_nst_up (fun _ _ _ q => mm_actF_le q) k n d M S S' h) g
theorem mm_xfn {S : mm_S} (h : mm_actF Z M S = some (.inr (.inl r))) (hd : mm_okd d r.1 = true) : mm_X Z d M S r := mm_xfin (mm_actF_le h) hd
theorem mm_xcl {T : Nat} {ls0 : List (Option Value)} {rest : List Value} {w1 : mm_W} {v : Option Value} (h : mm_actF Z M (pc, ls, st, w) = some (.inr (.inr (T, ls0, rest)))) (hc : mm_X Z d T (0, ls0, [], w) (.inl v, w1)) (k : mm_X Z (d + 1) M (pc + 3, ls, v.toList ++ rest, w1) r) : mm_X Z (d + 1) M (pc, ls, st, w) r := mm_xcall (mm_actF_le h) hc k
theorem mm_xct {T hp x : Nat} {ls0 : List (Option Value)} {rest : List Value} {w1 : mm_W} (h : mm_actF Z M (pc, ls, st, w) = some (.inr (.inr (T, ls0, rest)))) (hc : mm_X Z d T (0, ls0, [], w) (.inr x, w1)) (hh : mm_hand M pc x = some hp) (k : mm_X Z (d + 1) M (hp, ls, [.ref (w1.length - 1)], w1) r) : mm_X Z (d + 1) M (pc, ls, st, w) r := mm_xcaught (mm_actF_le h) hc hh k
theorem mm_xth {T x : Nat} {ls0 : List (Option Value)} {rest : List Value} {w1 : mm_W} (h : mm_actF Z M (pc, ls, st, w) = some (.inr (.inr (T, ls0, rest)))) (hc : mm_X Z d T (0, ls0, [], w) (.inr x, w1)) (hh : mm_hand M pc x = none) : mm_X Z (d + 1) M (pc, ls, st, w) (.inr x, w1) := mm_xthrown (mm_actF_le h) hc hh
theorem mm_xif2 {c : Jvm.ClassFile.Cond} {off : Int} {len tgt : Nat} {x y : Int32} (hk : mm_kT M pc = some (.if_icmp c off, len)) (b : Bool) (hb : mm_cmp c x y = b) (ht : mm_jump pc off ls st = some (tgt, ls, st)) (g : mm_X Z d M (bif b then tgt else pc + 3, ls, st, w) r) : mm_X Z d M (pc, ls, .int y :: .int x :: st, w) r := by
  have hc := (mm_kT_ok hk).1
  refine mm_xstep (S' := (bif b then tgt else pc + 3, ls, st, w)) ?_ g
  unfold mm_act
  dsimp only
  rw [hc]
  simp only [mm_pure, mm_if2, mm_br, ht, hb]
  cases b <;> rfl
theorem mm_xif1 {c : Jvm.ClassFile.Cond} {off : Int} {len tgt : Nat} {x : Int32} (hk : mm_kT M pc = some (.ifCond c off, len)) (b : Bool) (hb : mm_cmp c x 0 = b) (ht : mm_jump pc off ls st = some (tgt, ls, st)) (g : mm_X Z d M (bif b then tgt else pc + 3, ls, st, w) r) : mm_X Z d M (pc, ls, .int x :: st, w) r := by
  have hc := (mm_kT_ok hk).1
  refine mm_xstep (S' := (bif b then tgt else pc + 3, ls, st, w)) ?_ g
  unfold mm_act
  dsimp only
  rw [hc]
  simp only [mm_pure, mm_if1, mm_br, ht, hb]
  cases b <;> rfl
def mm_bd (i : Int32) (n : Nat) : Prop := 0 ≤ i.toInt ∧ i.toInt < n
theorem mm_bd_ok {i : Int32} {n : Nat} (h : mm_bd i n) : ¬ (i < 0 ∨ n ≤ i.toNatClampNeg) := by
  obtain ⟨h1, h2⟩ := h
  have e : i.toNatClampNeg = i.toInt.toNat := rfl
  intro hq
  rcases hq with hq | hq
  · rw [Int32.lt_iff_toInt_lt] at hq
    have : (0 : Int32).toInt = 0 := rfl
    omega
  · rw [e] at hq
    omega
theorem mm_xild {len a n : Nat} {i : Int32} {f : Nat → Int32} (hk : mm_kT M pc = some (.iaload, len)) (ha : mm_ar w a = some (.int, n, .inl f)) (hi : mm_bd i n) (g : mm_X Z d M (pc + 1, ls, .int (f i.toNatClampNeg) :: st, w) r) : mm_X Z d M (pc, ls, .int i :: .ref a :: st, w) r := by
  have hc := (mm_kT_ok hk).1
  refine mm_xstep (S' := (pc + 1, ls, .int (f i.toNatClampNeg) :: st, w)) ?_ g
  unfold mm_act
  dsimp only
  rw [hc]
  simp only [mm_aIld, ha, if_neg (mm_bd_ok hi)]
end MST
section MCM
variable {x y : Int32} {a b : Int}
theorem mm_lt1 (hx : x.toInt = a) (hy : y.toInt = b) (h : a < b) : mm_cmp .lt x y = true := decide_eq_true (Int32.lt_iff_toInt_lt.mpr (by omega))
theorem mm_lt0 (hx : x.toInt = a) (hy : y.toInt = b) (h : b ≤ a) : mm_cmp .lt x y = false := decide_eq_false (fun q => by have := Int32.lt_iff_toInt_lt.mp q; omega)
theorem mm_ge1 (hx : x.toInt = a) (hy : y.toInt = b) (h : b ≤ a) : mm_cmp .ge x y = true := decide_eq_true (Int32.le_iff_toInt_le.mpr (by omega))
theorem mm_ge0 (hx : x.toInt = a) (hy : y.toInt = b) (h : a < b) : mm_cmp .ge x y = false := decide_eq_false (fun q => by have := Int32.le_iff_toInt_le.mp q; omega)
theorem mm_gt1 (hx : x.toInt = a) (hy : y.toInt = b) (h : b < a) : mm_cmp .gt x y = true := decide_eq_true (Int32.lt_iff_toInt_lt.mpr (by omega))
theorem mm_gt0 (hx : x.toInt = a) (hy : y.toInt = b) (h : a ≤ b) : mm_cmp .gt x y = false := decide_eq_false (fun q => by have := Int32.lt_iff_toInt_lt.mp q; omega)
theorem mm_le1 (hx : x.toInt = a) (hy : y.toInt = b) (h : a ≤ b) : mm_cmp .le x y = true := decide_eq_true (Int32.le_iff_toInt_le.mpr (by omega))
theorem mm_le0 (hx : x.toInt = a) (hy : y.toInt = b) (h : b < a) : mm_cmp .le x y = false := decide_eq_false (fun q => by have := Int32.le_iff_toInt_le.mp q; omega)
theorem mm_eq1 (hx : x.toInt = a) (hy : y.toInt = b) (h : a = b) : mm_cmp .eq x y = true := decide_eq_true (Int32.toInt_inj.mp (by omega))
theorem mm_eq0 (hx : x.toInt = a) (hy : y.toInt = b) (h : a < b ∨ b < a) : mm_cmp .eq x y = false := decide_eq_false (fun q => by subst q; omega)
theorem mm_ne0 (hx : x.toInt = a) (hy : y.toInt = b) (h : a = b) : mm_cmp .ne x y = false := by
  show (!decide (x = y)) = false
  rw [decide_eq_true (Int32.toInt_inj.mp (by omega))]; rfl
theorem mm_ne1 (hx : x.toInt = a) (hy : y.toInt = b) (h : a < b ∨ b < a) : mm_cmp .ne x y = true := by
  show (!decide (x = y)) = true
  rw [decide_eq_false (fun q => by subst q; omega)]; rfl
end MCM
/-- the law's frame as a case of it begins -/
def mm_lw0 : List (Option Value) := [some (.ref 1000004), some (.ref 0), some (.ref 30), some (.ref 47), some (.int 0), none, none]
