/-! the small machine's step by the quick tables: where it answers, the step itself answers so -/
theorem mm_chkL_use : ∀ (l : List (Option (Instr × Nat))) (i : Nat) (f : Nat → Option (Instr × Nat)) (j : Nat) (q : Instr × Nat), mm_chkL i l f = true → j < l.length → f (i + j) = some q → l[j]? = some (some q)
  | [], _, _, j, _, _, hj, _ => absurd hj (Nat.not_lt_zero j)
  | c :: r, i, f, 0, q, h, _, hq => by
    rw [mm_chkL, Bool.and_eq_true] at h
    have h1 := h.1
    rw [Nat.add_zero] at hq
    rw [hq] at h1
    have h2 : c = some q := of_decide_eq_true h1
    subst h2
    rfl
  | c :: r, i, f, j + 1, q, h, hj, hq => by
    rw [mm_chkL, Bool.and_eq_true] at h
    have h1 := mm_chkL_use r (i + 1) f j q h.2 (Nat.lt_of_succ_lt_succ hj) (by rw [show i + 1 + j = i + (j + 1) by omega]; exact hq)
    exact h1
theorem mm_mt_ok {M : Nat} (hM : M < 201) : mm_chk (mm_mt M) (mm_code M) = true ∧ (mm_mt M).2.1 = mm_cn M ∧ (mm_mt M).2.2.1 = mm_rt M ∧ (mm_mt M).2.2.2.1 = mm_mL M := by
  have h := mm_all M hM
  rw [Bool.and_eq_true, Bool.and_eq_true, Bool.and_eq_true] at h
  exact ⟨h.1, of_decide_eq_true h.2.1, of_decide_eq_true h.2.2.1, of_decide_eq_true h.2.2.2⟩
theorem mm_kT_ok {M pc : Nat} {q : Instr × Nat} (h : mm_kT M pc = some q) : (mm_code M)[pc]? = some (some q) ∧ (mm_mt M).2.1 = mm_cn M ∧ (mm_mt M).2.2.1 = mm_rt M := by
  unfold mm_kT at h
  cases hb : Nat.ble M 200 with
  | false => rw [hb] at h; cases h
  | true =>
    rw [hb] at h
    have hM : M ≤ 200 := Nat.le_of_ble_eq_true hb
    obtain ⟨h1, h2, h3, -⟩ := mm_mt_ok (M := M) (by omega)
    refine ⟨?_, h2, h3⟩
    cases hl : Nat.ble (mm_mt M).2.2.2.2 pc with
    | true => rw [hl] at h; cases h
    | false =>
      rw [hl] at h
      have h0 : (mm_mt M).1 (0 + pc) = some q := by rw [Nat.zero_add]; exact h
      rw [mm_chk, Bool.and_eq_true] at h1
      have hn : ¬ (mm_mt M).2.2.2.2 ≤ pc := fun hq => by rw [Nat.ble_eq_true_of_le hq] at hl; cases hl
      have hle : (mm_mt M).2.2.2.2 ≤ (mm_code M).length := Nat.le_of_ble_eq_true h1.1
      exact mm_chkL_use _ 0 _ pc q h1.2 (by omega) h0
noncomputable def mm_fldF (cn ix cj : Nat) : Option Nat := match mm_lk (mm_flF cn ix) cj with
  | some a => some a.1
  | none => none
theorem mm_fld_le {cn ix cj k : Nat} (h : mm_fldF cn ix cj = some k) : mm_fld cn ix cj = some k := by
  unfold mm_fldF at h
  rcases hq : mm_lk (mm_flF cn ix) cj with _ | a
  · rw [hq] at h; cases h
  · rw [hq] at h
    unfold mm_flF at hq
    cases hb : Nat.ble cn 13 with
    | false => rw [hb] at hq; cases hq
    | true =>
      rw [hb] at hq
      cases hc : Nat.ble ix 363 with
      | false => rw [hc] at hq; cases hq
      | true =>
        rw [hc] at hq
        have h1 : cn ≤ 13 := Nat.le_of_ble_eq_true hb
        have h2 : ix ≤ 363 := Nat.le_of_ble_eq_true hc
        have h3 := mm_flall cn (by omega) ix (by omega)
        have hq' : mm_lk (mm_flT cn ix) cj = some a := hq
        rcases hl : mm_flT cn ix with _ | ⟨y, r⟩
        · rw [hl] at hq'; cases hq'
        · rw [hl] at h3 hq'
          have h4 : (mm_lk (mm_fp cn) ix).map (fun q => q.2.2) = some (y :: r) := of_decide_eq_true h3
          unfold mm_fld
          rcases hp : mm_lk (mm_fp cn) ix with _ | p
          · rw [hp] at h4; cases h4
          · rw [hp] at h4
            have h5 : p.2.2 = y :: r := Option.some.inj h4
            simp only [h5, hq']
            exact h
noncomputable def mm_aGetF (cn ix pc : Nat) (ls : List (Option Value)) (st : List Value) (w : mm_W) : Option mm_Ac := match st with
  | .ref a :: r => (match mm_obj w a with
    | some (cj, fs) => (match mm_fldF cn ix cj with
      | some k => (match fs[k]? with
        | some v => some (.inl (pc + 3, ls, v :: r, w))
        | none => none)
      | none => none)
    | none => none)
  | _ => none
theorem mm_aGetF_le {cn ix pc : Nat} {ls : List (Option Value)} {st : List Value} {w : mm_W} {b : mm_Ac} (h : mm_aGetF cn ix pc ls st w = some b) : mm_aGet cn ix pc ls st w = some b := by
  cases st with
  | nil => cases h
  | cons v r =>
    cases v with
    | ref a =>
      unfold mm_aGetF at h
      unfold mm_aGet
      rcases ho : mm_obj w a with _ | ⟨cj, fs⟩
      · simp only [ho] at h; cases h
      · simp only [ho] at h ⊢
        rcases hf : mm_fldF cn ix cj with _ | k
        · simp only [hf] at h; cases h
        · simp only [hf] at h
          simp only [mm_fld_le hf]
          exact h
    | _ => cases h
noncomputable def mm_aPutF (M cn ix pc : Nat) (ls : List (Option Value)) (st : List Value) (w : mm_W) : Option mm_Ac := match st with
  | v :: .ref a :: r => (match mm_obj w a with
    | some (cj, fs) => (match mm_fldF cn ix cj with
      | some k => if k < fs.length ∧ mm_fits (mm_ty0 cj k) v = true ∧ ((mm_T cj k).2.2.2 = false ∨ ((mm_y M).name = "<init>" ∧ (mm_T cj k).1 = mm_own cn)) then some (.inl (pc + 3, ls, r, w.set a (.inr (cj, fs.set k v)))) else none
      | none => none)
    | none => none)
  | _ => none
theorem mm_aPutF_le {M cn ix pc : Nat} {ls : List (Option Value)} {st : List Value} {w : mm_W} {b : mm_Ac} (h : mm_aPutF M cn ix pc ls st w = some b) : mm_aPut M cn ix pc ls st w = some b := by
  cases st with
  | nil => cases h
  | cons v r0 =>
    cases r0 with
    | nil => cases h
    | cons u r =>
      cases u with
      | ref a =>
        unfold mm_aPutF at h
        unfold mm_aPut
        rcases ho : mm_obj w a with _ | ⟨cj, fs⟩
        · simp only [ho] at h; cases h
        · simp only [ho] at h ⊢
          rcases hf : mm_fldF cn ix cj with _ | k
          · simp only [hf] at h; cases h
          · simp only [hf] at h
            simp only [mm_fld_le hf]
            exact h
      | _ => cases h
noncomputable def mm_goSF (M n : Nat) (st : List Value) : Option mm_Ac := cond (Nat.ble M 200)
  (if n ≤ st.length ∧ n ≤ (mm_mt M).2.2.2.1 ∧ mm_cat1 (st.take n) = true ∧ ((st.drop n).map fun v => v.category).sum ≤ 8 then some (.inr (.inr (M, (st.take n).reverse.map some ++ List.replicate ((mm_mt M).2.2.2.1 - (st.take n).reverse.length) none, st.drop n))) else none) none
theorem mm_goSF_le {M n : Nat} {st : List Value} {b : mm_Ac} (h : mm_goSF M n st = some b) : mm_goS M n st = some b := by
  unfold mm_goSF at h
  cases hb : Nat.ble M 200 with
  | false => rw [hb] at h; cases h
  | true =>
    rw [hb] at h
    have hM : M ≤ 200 := Nat.le_of_ble_eq_true hb
    rw [(mm_mt_ok (M := M) (by omega)).2.2.2] at h
    exact h
noncomputable def mm_goVF (M n : Nat) (st : List Value) : Option mm_Ac := cond (Nat.ble M 200)
  (if n + 1 ≤ st.length ∧ n + 1 ≤ (mm_mt M).2.2.2.1 ∧ mm_cat1 (st.take n) = true ∧ ((st.drop (n + 1)).map fun v => v.category).sum ≤ 8 then some (.inr (.inr (M, (st.take (n + 1)).reverse.map some ++ List.replicate ((mm_mt M).2.2.2.1 - (st.take (n + 1)).reverse.length) none, st.drop (n + 1)))) else none) none
theorem mm_goVF_le {M n : Nat} {st : List Value} {b : mm_Ac} (h : mm_goVF M n st = some b) : mm_goV M n st = some b := by
  unfold mm_goVF at h
  cases hb : Nat.ble M 200 with
  | false => rw [hb] at h; cases h
  | true =>
    rw [hb] at h
    have hM : M ≤ 200 := Nat.le_of_ble_eq_true hb
    rw [(mm_mt_ok (M := M) (by omega)).2.2.2] at h
    exact h
noncomputable def mm_aStcF (cn ix pc : Nat) (ls : List (Option Value)) (st : List Value) (w : mm_W) : Option mm_Ac := match mm_lk (mm_ip cn) ix with
  | some (k, n, x, tg) => if k = 0 ∨ k = 1 then (match tg with
      | [(_, M, _)] => mm_goSF M n st
      | _ => none)
    else mm_aStc cn ix pc ls st w
  | none => none
theorem mm_aStcF_le {cn ix pc : Nat} {ls : List (Option Value)} {st : List Value} {w : mm_W} {b : mm_Ac} (h : mm_aStcF cn ix pc ls st w = some b) : mm_aStc cn ix pc ls st w = some b := by
  unfold mm_aStcF at h
  rcases hq : mm_lk (mm_ip cn) ix with _ | ⟨k, n, x, tg⟩
  · simp only [hq] at h; cases h
  · simp only [hq] at h
    by_cases hk : k = 0 ∨ k = 1
    · rw [if_pos hk] at h
      unfold mm_aStc
      simp only [hq]
      rw [if_pos hk]
      split at h
      · exact mm_goSF_le h
      · cases h
    · rw [if_neg hk] at h
      exact h
noncomputable def mm_aSpcF (cn ix pc : Nat) (ls : List (Option Value)) (st : List Value) (w : mm_W) : Option mm_Ac := match mm_lk (mm_ip cn) ix with
  | some (k, n, x, tg) => if k = 2 ∨ k = 3 then (match st[n]? with
    | some (.ref _) => (match tg with
        | [(_, M, _)] => mm_goVF M n st
        | _ => none)
    | _ => none)
    else mm_aSpc cn ix pc ls st w
  | none => none
theorem mm_aSpcF_le {cn ix pc : Nat} {ls : List (Option Value)} {st : List Value} {w : mm_W} {b : mm_Ac} (h : mm_aSpcF cn ix pc ls st w = some b) : mm_aSpc cn ix pc ls st w = some b := by
  unfold mm_aSpcF at h
  rcases hq : mm_lk (mm_ip cn) ix with _ | ⟨k, n, x, tg⟩
  · simp only [hq] at h; cases h
  · simp only [hq] at h
    by_cases hk : k = 2 ∨ k = 3
    · rw [if_pos hk] at h
      unfold mm_aSpc
      simp only [hq]
      split at h
      · rename_i a hs
        simp only [hs]
        rw [if_pos hk]
        split at h
        · exact mm_goVF_le h
        · cases h
      · cases h
    · rw [if_neg hk] at h
      exact h
noncomputable def mm_aVrtF (cn ix : Nat) (st : List Value) (w : mm_W) : Option mm_Ac := match mm_lk (mm_ip cn) ix with
  | some (k, n, _, tg) => if k = 4 ∨ k = 5 ∨ k = 7 then (match st[n]? with
    | some (.ref a) => (match mm_obj w a with
      | some (cj, _) => (match mm_lk tg cj with
        | some q => mm_goVF q.1 n st
        | none => none)
      | none => none)
    | _ => none) else none
  | none => none
theorem mm_aVrtF_le {cn ix : Nat} {st : List Value} {w : mm_W} {b : mm_Ac} (h : mm_aVrtF cn ix st w = some b) : mm_aVrt cn ix st w = some b := by
  unfold mm_aVrtF at h
  unfold mm_aVrt
  rcases hq : mm_lk (mm_ip cn) ix with _ | ⟨k, n, x, tg⟩
  · simp only [hq] at h; cases h
  · simp only [hq] at h ⊢
    by_cases hk : k = 4 ∨ k = 5 ∨ k = 7
    · rw [if_pos hk] at h ⊢
      split at h
      · rename_i a hs
        simp only [hs]
        rcases ho : mm_obj w a with _ | ⟨cj, fs⟩
        · simp only [ho] at h; cases h
        · simp only [ho] at h ⊢
          rcases ht : mm_lk tg cj with _ | q
          · simp only [ht] at h; cases h
          · simp only [ht] at h ⊢
            exact mm_goVF_le h
      · cases h
    · rw [if_neg hk] at h
      cases h
section MAF
variable (Z : Nat → Option (Nat × (Nat → Int32)))
noncomputable def mm_actF (M : Nat) (S : mm_S) : Option mm_Ac := match mm_kT M S.1 with
  | some (i, _) => (match i with
    | .getfield ix => mm_aGetF (mm_mt M).2.1 ix S.1 S.2.1 S.2.2.1 S.2.2.2
    | .putfield ix => mm_aPutF M (mm_mt M).2.1 ix S.1 S.2.1 S.2.2.1 S.2.2.2
    | .getstatic ix => mm_aSta (mm_mt M).2.1 ix S.1 S.2.1 S.2.2.1 S.2.2.2
    | .ldc ix => mm_aLdc (mm_mt M).2.1 ix (S.1 + 2) S.2.1 S.2.2.1 S.2.2.2
    | .iaload => mm_aIld Z S.1 S.2.1 S.2.2.1 S.2.2.2
    | .baload => mm_aBld S.1 S.2.1 S.2.2.1 S.2.2.2
    | .laload => mm_aLld S.1 S.2.1 S.2.2.1 S.2.2.2
    | .iastore => mm_aIst S.1 S.2.1 S.2.2.1 S.2.2.2
    | .bastore => mm_aBst S.1 S.2.1 S.2.2.1 S.2.2.2
    | .lastore => mm_aLst S.1 S.2.1 S.2.2.1 S.2.2.2
    | .arraylength => mm_aLen Z S.1 S.2.1 S.2.2.1 S.2.2.2
    | .newarray t => mm_aNwa t S.1 S.2.1 S.2.2.1 S.2.2.2
    | .new ix => mm_aNew M (mm_mt M).2.1 ix S.1 S.2.1 S.2.2.1 S.2.2.2
    | .invokestatic ix => mm_aStcF (mm_mt M).2.1 ix S.1 S.2.1 S.2.2.1 S.2.2.2
    | .invokespecial ix => mm_aSpcF (mm_mt M).2.1 ix S.1 S.2.1 S.2.2.1 S.2.2.2
    | .invokevirtual ix => mm_aVrtF (mm_mt M).2.1 ix S.2.2.1 S.2.2.2
    | .ireturn => (match S.2.2.1 with
      | [.int v] => if (mm_mt M).2.2.1 = some .int ∨ ((mm_mt M).2.2.1 = some .boolean ∧ (v = 0 ∨ v = 1)) then some (.inr (.inl (.inl (some (.int v)), S.2.2.2))) else none
      | _ => none)
    | .areturn => (match S.2.2.1 with
      | [.ref a] => if (mm_mt M).2.2.1 = some (.array .byte) then some (.inr (.inl (.inl (some (.ref a)), S.2.2.2))) else none
      | _ => none)
    | .return_ => (match S.2.2.1 with
      | [] => if (mm_mt M).2.2.1 = none then some (.inr (.inl (.inl none, S.2.2.2))) else none
      | _ => none)
    | i => (match mm_pure i S.1 S.2.1 S.2.2.1 with
      | some q => some (.inl (q.1, q.2.1, q.2.2, S.2.2.2))
      | none => none))
  | none => none
end MAF
set_option maxHeartbeats 4000000 in
theorem mm_actF_le {Z : Nat → Option (Nat × (Nat → Int32))} {M : Nat} {S : mm_S} {a : mm_Ac} (h : mm_actF Z M S = some a) : mm_act Z M S = some a := by
  unfold mm_actF at h
  rcases hk : mm_kT M S.1 with _ | ⟨i, len⟩
  · rw [hk] at h; cases h
  · rw [hk] at h
    obtain ⟨hc, e1, e2⟩ := mm_kT_ok hk
    rw [e1, e2] at h
    unfold mm_act
    rw [hc]
    cases i <;> first | exact mm_aGetF_le h | exact mm_aPutF_le h | exact mm_aStcF_le h | exact mm_aSpcF_le h | exact mm_aVrtF_le h | exact h
section MLE
variable {act act' : Nat → mm_S → Option mm_Ac} {hand : Nat → Nat → Nat → Option Nat}
theorem mm_ex_up (hA : ∀ M S a, act M S = some a → act' M S = some a) : ∀ (n d M : Nat) (S : mm_S) (r : mm_Rs × mm_W), mm_ex act hand n d M S = some r → mm_ex act' hand n d M S = some r := by
  intro n
  induction n with
  | zero => intro d M S r h; cases h
  | succ n ih =>
    intro d M S r h
    rw [mm_ex] at h ⊢
    rcases ha : act M S with _ | (S' | (r' | q))
    · simp only [ha] at h; cases h
    · simp only [ha] at h
      simp only [hA _ _ _ ha]
      exact ih _ _ _ _ h
    · simp only [ha] at h
      simp only [hA _ _ _ ha]
      exact h
    · cases d with
      | zero => simp only [ha] at h; cases h
      | succ d =>
        simp only [ha] at h
        simp only [hA _ _ _ ha]
        rcases hc : mm_ex act hand n d q.1 (0, q.2.1, [], S.2.2.2) with _ | ⟨v | x, w1⟩
        · simp only [hc] at h; cases h
        · simp only [hc] at h
          rw [ih _ _ _ _ hc]
          exact ih _ _ _ _ h
        · simp only [hc] at h
          rw [ih _ _ _ _ hc]
          rcases hh : hand M S.1 x with _ | hp
          · simp only [hh] at h ⊢; exact h
          · simp only [hh] at h ⊢; exact ih _ _ _ _ h
end MLE
