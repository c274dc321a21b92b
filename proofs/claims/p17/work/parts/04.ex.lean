/-! the small machine's run: 'act' says what a method does next, 'hand' where an exception of a kind is caught -/
abbrev mm_S : Type := Nat × List (Option Value) × List Value × mm_W
abbrev mm_Rs : Type := Option Value ⊕ Nat
abbrev mm_Ac : Type := mm_S ⊕ ((mm_Rs × mm_W) ⊕ (Nat × List (Option Value) × List Value))
/-- a throw wants three calls left -/
def mm_okd (d : Nat) (r : mm_Rs) : Bool := match r with
  | .inl _ => true
  | .inr _ => Nat.ble 3 d
section MEX
variable (act : Nat → mm_S → Option mm_Ac) (hand : Nat → Nat → Nat → Option Nat)
def mm_ex : Nat → Nat → Nat → mm_S → Option (mm_Rs × mm_W)
  | 0, _, _, _ => none
  | n + 1, d, M, S => match act M S with
    | none => none
    | some (.inl S') => mm_ex n d M S'
    | some (.inr (.inl r)) => if mm_okd d r.1 = true then some r else none
    | some (.inr (.inr q)) => match d with
      | 0 => none
      | d' + 1 => match mm_ex n d' q.1 (0, q.2.1, [], S.2.2.2) with
        | none => none
        | some (.inl v, w') => mm_ex n (d' + 1) M (S.1 + 3, S.2.1, v.toList ++ q.2.2, w')
        | some (.inr x, w') => match hand M S.1 x with
          | some h => mm_ex n (d' + 1) M (h, S.2.1, [.ref (w'.length - 1)], w')
          | none => some (.inr x, w')
theorem mm_ex_succ : ∀ (n d M : Nat) (S : mm_S) (r : mm_Rs × mm_W), mm_ex act hand n d M S = some r → mm_ex act hand (n + 1) d M S = some r := by
  intro n
  induction n with
  | zero => intro d M S r h; cases h
  | succ n ih =>
    intro d M S r h
    rcases ha : act M S with _ | (S' | (r' | q))
    · simp only [mm_ex, ha] at h
      cases h
    · simp only [mm_ex, ha] at h
      rw [mm_ex]
      simp only [ha]
      exact ih _ _ _ _ h
    · simp only [mm_ex, ha] at h
      rw [mm_ex]
      simp only [ha]
      exact h
    · cases d with
      | zero =>
        simp only [mm_ex, ha] at h
        cases h
      | succ d' =>
        rw [mm_ex] at h
        rw [mm_ex]
        simp only [ha] at h ⊢
        rcases hc : mm_ex act hand n d' q.1 (0, q.2.1, [], S.2.2.2) with _ | ⟨v | x, w'⟩
        · rw [hc] at h; cases h
        · rw [hc] at h
          rw [ih _ _ _ _ hc]
          exact ih _ _ _ _ h
        · rw [hc] at h
          rw [ih _ _ _ _ hc]
          rcases hh : hand M S.1 x with _ | hp
          · simp only [hh] at h ⊢
            exact h
          · simp only [hh] at h ⊢
            exact ih _ _ _ _ h
theorem mm_ex_le {n n' d M : Nat} {S : mm_S} {r : mm_Rs × mm_W} (h : mm_ex act hand n d M S = some r) (hn : n ≤ n') : mm_ex act hand n' d M S = some r := by
  obtain ⟨k, rfl⟩ := Nat.exists_eq_add_of_le hn
  clear hn
  induction k with
  | zero => exact h
  | succ k ih => exact mm_ex_succ act hand _ _ _ _ _ ih
def mm_Ex (d M : Nat) (S : mm_S) (r : mm_Rs × mm_W) : Prop := ∃ n, mm_ex act hand n d M S = some r
variable {act hand}
theorem mm_xstep {d M : Nat} {S S' : mm_S} {r : mm_Rs × mm_W} (h : act M S = some (.inl S')) (k : mm_Ex act hand d M S' r) : mm_Ex act hand d M S r := by
  obtain ⟨n, hn⟩ := k
  exact ⟨n + 1, by rw [mm_ex]; simp only [h]; exact hn⟩
theorem mm_xfin {d M : Nat} {S : mm_S} {r : mm_Rs × mm_W} (h : act M S = some (.inr (.inl r))) (hd : mm_okd d r.1 = true) : mm_Ex act hand d M S r := ⟨1, by rw [mm_ex]; simp only [h]; rw [if_pos hd]⟩
theorem mm_xcall {d M T pc : Nat} {ls ls0 : List (Option Value)} {st rest : List Value} {w w1 : mm_W} {v : Option Value} {r : mm_Rs × mm_W} (h : act M (pc, ls, st, w) = some (.inr (.inr (T, ls0, rest)))) (hc : mm_Ex act hand d T (0, ls0, [], w) (.inl v, w1)) (k : mm_Ex act hand (d + 1) M (pc + 3, ls, v.toList ++ rest, w1) r) : mm_Ex act hand (d + 1) M (pc, ls, st, w) r := by
  obtain ⟨n1, h1⟩ := hc
  obtain ⟨n2, h2⟩ := k
  refine ⟨max n1 n2 + 1, ?_⟩
  rw [mm_ex]
  simp only [h]
  rw [mm_ex_le act hand h1 (Nat.le_max_left n1 n2)]
  exact mm_ex_le act hand h2 (Nat.le_max_right n1 n2)
theorem mm_xcaught {d M T pc hp x : Nat} {ls ls0 : List (Option Value)} {st rest : List Value} {w w1 : mm_W} {r : mm_Rs × mm_W} (h : act M (pc, ls, st, w) = some (.inr (.inr (T, ls0, rest)))) (hc : mm_Ex act hand d T (0, ls0, [], w) (.inr x, w1)) (hh : hand M pc x = some hp) (k : mm_Ex act hand (d + 1) M (hp, ls, [.ref (w1.length - 1)], w1) r) : mm_Ex act hand (d + 1) M (pc, ls, st, w) r := by
  obtain ⟨n1, h1⟩ := hc
  obtain ⟨n2, h2⟩ := k
  refine ⟨max n1 n2 + 1, ?_⟩
  rw [mm_ex]
  simp only [h]
  rw [mm_ex_le act hand h1 (Nat.le_max_left n1 n2)]
  simp only [hh]
  exact mm_ex_le act hand h2 (Nat.le_max_right n1 n2)
theorem mm_xthrown {d M T pc x : Nat} {ls ls0 : List (Option Value)} {st rest : List Value} {w w1 : mm_W} (h : act M (pc, ls, st, w) = some (.inr (.inr (T, ls0, rest)))) (hc : mm_Ex act hand d T (0, ls0, [], w) (.inr x, w1)) (hh : hand M pc x = none) : mm_Ex act hand (d + 1) M (pc, ls, st, w) (.inr x, w1) := by
  obtain ⟨n1, h1⟩ := hc
  refine ⟨n1 + 1, ?_⟩
  rw [mm_ex]
  simp only [h]
  rw [h1]
  simp only [hh]
end MEX
