/-! runs up to a place; runs with fewer old arrays -/
section MTO
variable (act : Nat → mm_S → Option mm_Ac) (hand : Nat → Nat → Nat → Option Nat)
/-- the method's own steps, calls among them, until its pc is 'stop' -/
def mm_to (stop : Nat) : Nat → Nat → Nat → mm_S → Option mm_S
  | 0, _, _, _ => none
  | n + 1, d, M, S => if S.1 = stop then some S else match act M S with
    | some (.inl S') => mm_to stop n d M S'
    | some (.inr (.inr q)) => (match d with
      | 0 => none
      | d' + 1 => match mm_ex act hand n d' q.1 (0, q.2.1, [], S.2.2.2) with
        | some (.inl v, w') => mm_to stop n (d' + 1) M (S.1 + 3, S.2.1, v.toList ++ q.2.2, w')
        | some (.inr x, w') => (match hand M S.1 x with
          | some h => mm_to stop n (d' + 1) M (h, S.2.1, [.ref (w'.length - 1)], w')
          | none => none)
        | none => none)
    | _ => none
variable {act hand}
theorem mm_xto {stop : Nat} : ∀ (n d M : Nat) (S S' : mm_S) (r : mm_Rs × mm_W), mm_to act hand stop n d M S = some S' → mm_Ex act hand d M S' r → mm_Ex act hand d M S r := by
  intro n
  induction n with
  | zero => intro d M S S' r h; cases h
  | succ n ih =>
    intro d M S S' r h k
    rw [mm_to] at h
    split at h
    · cases h; exact k
    · rcases ha : act M S with _ | (S1 | (r1 | ⟨T, ls0, rest⟩))
      · simp only [ha] at h; cases h
      · simp only [ha] at h
        exact mm_xstep ha (ih _ _ _ _ _ h k)
      · simp only [ha] at h; cases h
      · cases d with
        | zero => simp only [ha] at h; cases h
        | succ d =>
          simp only [ha] at h
          obtain ⟨pc, ls, st, w⟩ := S
          rcases hc : mm_ex act hand n d T (0, ls0, [], w) with _ | ⟨v | x, w1⟩
          · simp only [hc] at h; cases h
          · simp only [hc] at h
            exact mm_xcall ha ⟨n, hc⟩ (ih _ _ _ _ _ h k)
          · simp only [hc] at h
            rcases hh : hand M pc x with _ | hp
            · simp only [hh] at h; cases h
            · simp only [hh] at h
              exact mm_xcaught ha ⟨n, hc⟩ hh (ih _ _ _ _ _ h k)
end MTO
def mm_Zle (Z Z' : Nat → Option (Nat × (Nat → Int32))) : Prop := ∀ j q, Z j = some q → Z' j = some q
theorem mm_act_Z {Z Z' : Nat → Option (Nat × (Nat → Int32))} (hZ : mm_Zle Z Z') {M : Nat} {S : mm_S} {a : mm_Ac} (h : mm_act Z M S = some a) : mm_act Z' M S = some a := by
  have hold : ∀ b q, mm_old Z b = some q → mm_old Z' b = some q := by
    intro b q hb
    unfold mm_old at hb ⊢
    split at hb
    · cases hb
    · rename_i hlt
      rw [if_neg hlt]
      exact hZ _ _ hb
  obtain ⟨pc, ls, st, w⟩ := S
  unfold mm_act at h ⊢
  dsimp only at h ⊢
  rcases hcode : (mm_code M)[pc]? with _ | (_ | ⟨i, len⟩)
  · rw [hcode] at h; cases h
  · rw [hcode] at h; cases h
  · rw [hcode] at h
    dsimp only at h ⊢
    split at h <;> try exact h
    · unfold mm_aIld at h ⊢
      split at h
      · split at h
        · exact h
        · cases h
        · split at h
          · rename_i ho
            simp only [hold _ _ ho]
            exact h
          · cases h
      · cases h
    · unfold mm_aLen at h ⊢
      split at h
      · split at h
        · exact h
        · split at h
          · rename_i ho
            simp only [hold _ _ ho]
            exact h
          · cases h
      · cases h
theorem mm_ex_Z {Z Z' : Nat → Option (Nat × (Nat → Int32))} (hZ : mm_Zle Z Z') : ∀ (n d M : Nat) (S : mm_S) (r : mm_Rs × mm_W), mm_ex (mm_act Z) mm_hand n d M S = some r → mm_ex (mm_act Z') mm_hand n d M S = some r := by
  intro n
  induction n with
  | zero => intro d M S r h; cases h
  | succ n ih =>
    intro d M S r h
    rw [mm_ex] at h ⊢
    rcases ha : mm_act Z M S with _ | (S' | (r' | q))
    · simp only [ha] at h; cases h
    · simp only [ha] at h
      simp only [mm_act_Z hZ ha]
      exact ih _ _ _ _ h
    · simp only [ha] at h
      simp only [mm_act_Z hZ ha]
      exact h
    · cases d with
      | zero => simp only [ha] at h; cases h
      | succ d =>
        simp only [ha] at h
        simp only [mm_act_Z hZ ha]
        rcases hc : mm_ex (mm_act Z) mm_hand n d q.1 (0, q.2.1, [], S.2.2.2) with _ | ⟨v | x, w1⟩
        · simp only [hc] at h; cases h
        · simp only [hc] at h
          rw [ih _ _ _ _ hc]
          exact ih _ _ _ _ h
        · simp only [hc] at h
          rw [ih _ _ _ _ hc]
          rcases hh : mm_hand M S.1 x with _ | hp
          · simp only [hh] at h ⊢; exact h
          · simp only [hh] at h ⊢; exact ih _ _ _ _ h
theorem mm_to_Z {Z Z' : Nat → Option (Nat × (Nat → Int32))} (hZ : mm_Zle Z Z') {stop : Nat} : ∀ (n d M : Nat) (S S' : mm_S), mm_to (mm_act Z) mm_hand stop n d M S = some S' → mm_to (mm_act Z') mm_hand stop n d M S = some S' := by
  intro n
  induction n with
  | zero => intro d M S r h; cases h
  | succ n ih =>
    intro d M S r h
    rw [mm_to] at h ⊢
    split at h
    · rename_i hs; rw [if_pos hs]; exact h
    · rename_i hs
      rw [if_neg hs]
      rcases ha : mm_act Z M S with _ | (S' | (r' | q))
      · simp only [ha] at h; cases h
      · simp only [ha] at h
        simp only [mm_act_Z hZ ha]
        exact ih _ _ _ _ h
      · simp only [ha] at h; cases h
      · cases d with
        | zero => simp only [ha] at h; cases h
        | succ d =>
          simp only [ha] at h
          simp only [mm_act_Z hZ ha]
          rcases hc : mm_ex (mm_act Z) mm_hand n d q.1 (0, q.2.1, [], S.2.2.2) with _ | ⟨v | x, w1⟩
          · simp only [hc] at h; cases h
          · simp only [hc] at h
            rw [mm_ex_Z hZ _ _ _ _ _ hc]
            exact ih _ _ _ _ h
          · simp only [hc] at h
            rw [mm_ex_Z hZ _ _ _ _ _ hc]
            rcases hh : mm_hand M S.1 x with _ | hp
            · simp only [hh] at h; cases h
            · simp only [hh] at h ⊢; exact ih _ _ _ _ h
