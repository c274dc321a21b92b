/-! whole runs of the machine over whole numbers -/
section MIC
variable {cn ix pc : Nat} {ls : List (Option mi_V)} {st : List mi_V} {n : Nat} {D : Nat → Nat × Nat} {s : Nat → Int} {p : Nat → Nat} {c : Nat → Nat → Int} {b : mi_Ac}
variable {Zi : Nat → Option (Nat × (Nat → Int))} {Z : Nat → Option (Nat × (Nat → Int32))}
theorem mi_cpy {f g : Nat → Int} {sp dp k : Nat} : (fun j => Int32.ofInt (va_cpy f g sp dp k j)) = va_cpy (fun j => Int32.ofInt (f j)) (fun j => Int32.ofInt (g j)) sp dp k := by
  funext j
  unfold va_cpy
  split <;> rfl
theorem mi_clamp {x : Int} (h0 : 0 ≤ x) (h1 : x ≤ 2147483647) : ¬ Int32.ofInt x < 0 ∧ (Int32.ofInt x).toNatClampNeg = x.toNat := by
  have e : (Int32.ofInt x).toInt = x := mi_ti (by omega)
  have e2 : (Int32.ofInt x).toNatClampNeg = (Int32.ofInt x).toInt.toNat := rfl
  refine ⟨?_, by rw [e2, e]⟩
  intro hq
  rw [Int32.lt_iff_toInt_lt, e] at hq
  have : (0 : Int32).toInt = 0 := rfl
  omega
theorem mi_fitb {x : Int} (h : -128 ≤ x ∧ x ≤ 127) : fits .byte (.int (Int32.ofInt x)) = true := by
  have e : (Int32.ofInt x).toInt = x := mi_ti (by omega)
  show (decide (-128 ≤ Int32.ofInt x) && decide (Int32.ofInt x ≤ 127)) = true
  rw [Bool.and_eq_true]
  refine ⟨decide_eq_true ?_, decide_eq_true ?_⟩
  · rw [Int32.le_iff_toInt_le, e]
    show (-128 : Int) ≤ x
    omega
  · rw [Int32.le_iff_toInt_le, e]
    show x ≤ (127 : Int)
    omega
theorem mi_aCpy_ok (h : mi_aCpy pc ls st (n, D, s, p, c) = some b) : mm_aCpy pc (mi_cl ls) (mi_cs st) (mi_mk (n, D, s, p, c)) = some (mi_cA b) := by
  unfold mi_aCpy at h
  split at h
  · rename_i k dp bb sp a r
    show mm_aCpy pc (mi_cl ls) (.int (Int32.ofInt k) :: .int (Int32.ofInt dp) :: .ref bb :: .int (Int32.ofInt sp) :: .ref a :: mi_cs r) (mi_mk (n, D, s, p, c)) = _
    unfold mm_aCpy
    dsimp only at h ⊢
    split at h
    · rename_i t n0 t' n1 ha hb
      split at h
      · rename_i hc
        cases h
        obtain ⟨rfl, h2, h3, h4, h5, h6, h7, h8, h9, h10, h11, h12⟩ := hc
        obtain ⟨f1, f2⟩ := mi_clamp h3 (by omega)
        obtain ⟨f3, f4⟩ := mi_clamp h4 (by omega)
        obtain ⟨f5, f6⟩ := mi_clamp h5 (by omega)
        match t, h2, ha, hb, h11 with
        | 0, _, ha, hb, _ =>
          rw [mi_ar_get ha rfl, mi_ar_get hb rfl]
          dsimp only
          rw [if_pos, f2, f4, f6, mi_mk_uc (f := va_cpy (c a) (c bb) sp.toNat dp.toNat k.toNat) hb (by rw [← mi_cpy]; rfl)]
          · rfl
          · refine ⟨rfl, Or.inl rfl, f1, f3, f5, ?_, ?_, Or.inl rfl, ?_⟩
            · rw [f2, f6]; omega
            · rw [f4, f6]; omega
            · rw [mi_cats_ok]; exact h12
        | 1, _, ha, hb, h11 =>
          rw [mi_ar_get ha rfl, mi_ar_get hb rfl]
          dsimp only
          rw [if_pos, f2, f4, f6, mi_mk_uc (f := va_cpy (c a) (c bb) sp.toNat dp.toNat k.toNat) hb (by rw [← mi_cpy]; rfl)]
          · rfl
          · refine ⟨rfl, Or.inr rfl, f1, f3, f5, ?_, ?_, Or.inr ?_, ?_⟩
            · rw [f2, f6]; omega
            · rw [f4, f6]; omega
            · intro i hi
              rw [f6] at hi
              rw [f2]
              rcases h11 with h11 | h11
              · cases h11
              · exact mi_fitb (h11 i hi)
            · rw [mi_cats_ok]; exact h12
        | t + 2, h2, _, _, _ => exact absurd h2 (by omega)
      · cases h
    · cases h
  · cases h
theorem mi_max {x y : Int} (hx : -2147483648 ≤ x ∧ x ≤ 2147483647) (hy : -2147483648 ≤ y ∧ y ≤ 2147483647) : (if Int32.ofInt x < Int32.ofInt y then Int32.ofInt y else Int32.ofInt x) = Int32.ofInt (max x y) := by
  by_cases h : x < y
  · rw [if_pos (by rw [Int32.lt_iff_toInt_lt, mi_ti hx, mi_ti hy]; exact h), Int.max_eq_right (by omega)]
  · rw [if_neg (by rw [Int32.lt_iff_toInt_lt, mi_ti hx, mi_ti hy]; exact h), Int.max_eq_left (by omega)]
theorem mi_min {x y : Int} (hx : -2147483648 ≤ x ∧ x ≤ 2147483647) (hy : -2147483648 ≤ y ∧ y ≤ 2147483647) : (if Int32.ofInt y < Int32.ofInt x then Int32.ofInt y else Int32.ofInt x) = Int32.ofInt (min x y) := by
  by_cases h : y < x
  · rw [if_pos (by rw [Int32.lt_iff_toInt_lt, mi_ti hx, mi_ti hy]; exact h), Int.min_eq_right (by omega)]
  · rw [if_neg (by rw [Int32.lt_iff_toInt_lt, mi_ti hx, mi_ti hy]; exact h), Int.min_eq_left (by omega)]
theorem mi_abs {x : Int} (hx : -2147483647 ≤ x ∧ x ≤ 2147483647) : (if 0 ≤ Int32.ofInt x then Int32.ofInt x else 0 - Int32.ofInt x) = Int32.ofInt (if 0 ≤ x then x else -x) := by
  have e : (Int32.ofInt x).toInt = x := mi_ti (by omega)
  have e0 : (0 : Int32).toInt = 0 := rfl
  by_cases h : 0 ≤ x
  · rw [if_pos (by rw [Int32.le_iff_toInt_le, e, e0]; exact h), if_pos h]
  · rw [if_neg (by rw [Int32.le_iff_toInt_le, e, e0]; exact h), if_neg h, Int32.ofInt_neg, Int32.zero_sub]
theorem mi_aStc_ok (h : mi_aStc cn ix pc ls st (n, D, s, p, c) = some b) : mm_aStcF cn ix pc (mi_cl ls) (mi_cs st) (mi_mk (n, D, s, p, c)) = some (mi_cA b) := by
  unfold mi_aStc at h
  unfold mm_aStcF
  split at h
  · rename_i k m x tg hq
    simp only [hq]
    cases hk : Nat.ble k 1 with
    | true =>
      rw [hk] at h
      have hk1 := Nat.le_of_ble_eq_true hk
      rw [if_pos (by omega)]
      dsimp only [cond] at h
      split at h
      · exact mi_goS_ok h
      · cases h
    | false =>
      rw [hk] at h
      have hk1 := mi_ble_f hk
      rw [if_neg (by omega)]
      unfold mm_aStc
      simp only [hq]
      rw [if_neg (by omega)]
      dsimp only [cond] at h
      cases h10 : Nat.beq k 10 with
      | true =>
        rw [h10] at h
        rw [if_pos (Nat.eq_of_beq_eq_true h10)]
        dsimp only at h
        split at h
        · rename_i y x r
          split at h
          · rename_i hc
            cases h
            show (if ((mi_cs r).map fun v => v.category).sum ≤ 8 then some (Sum.inl (pc + 3, mi_cl ls, .int (if Int32.ofInt x < Int32.ofInt y then Int32.ofInt y else Int32.ofInt x) :: mi_cs r, mi_mk (n, D, s, p, c))) else none) = _
            rw [if_pos (by rw [mi_cats_ok]; exact hc.1), mi_max hc.2.1 hc.2.2]
            rfl
          · cases h
        · cases h
      | false =>
        rw [h10] at h
        rw [if_neg (fun e => by rw [e] at h10; cases h10)]
        dsimp only at h
        cases h11 : Nat.beq k 11 with
        | true =>
          rw [h11] at h
          rw [if_pos (Nat.eq_of_beq_eq_true h11)]
          dsimp only at h
          split at h
          · rename_i y x r
            split at h
            · rename_i hc
              cases h
              show (if ((mi_cs r).map fun v => v.category).sum ≤ 8 then some (Sum.inl (pc + 3, mi_cl ls, .int (if Int32.ofInt y < Int32.ofInt x then Int32.ofInt y else Int32.ofInt x) :: mi_cs r, mi_mk (n, D, s, p, c))) else none) = _
              rw [if_pos (by rw [mi_cats_ok]; exact hc.1), mi_min hc.2.1 hc.2.2]
              rfl
            · cases h
          · cases h
        | false =>
          rw [h11] at h
          rw [if_neg (fun e => by rw [e] at h11; cases h11)]
          dsimp only at h
          cases h12 : Nat.beq k 12 with
          | true =>
            rw [h12] at h
            rw [if_pos (Nat.eq_of_beq_eq_true h12)]
            dsimp only at h
            split at h
            · rename_i x r
              split at h
              · rename_i hc
                cases h
                show (if ((mi_cs r).map fun v => v.category).sum ≤ 8 then some (Sum.inl (pc + 3, mi_cl ls, .int (if 0 ≤ Int32.ofInt x then Int32.ofInt x else 0 - Int32.ofInt x) :: mi_cs r, mi_mk (n, D, s, p, c))) else none) = _
                rw [if_pos (by rw [mi_cats_ok]; exact hc.1), mi_abs hc.2]
                rfl
              · cases h
            · cases h
          | false =>
            rw [h12] at h
            rw [if_neg (fun e => by rw [e] at h12; cases h12)]
            dsimp only at h
            cases h13 : Nat.beq k 13 with
            | true =>
              rw [h13] at h
              rw [if_pos (Nat.eq_of_beq_eq_true h13)]
              exact mi_aCpy_ok h
            | false => rw [h13] at h; cases h
  · cases h
theorem mi_cs_get {k : Nat} {v : mi_V} (h : st[k]? = some v) : (mi_cs st)[k]? = some (mi_cv v) := by
  unfold mi_cs
  rw [List.getElem?_map, h]
  rfl
theorem mi_aSpc_ok {H : mi_H} (h : mi_aSpc cn ix st = some b) : mm_aSpcF cn ix pc (mi_cl ls) (mi_cs st) (mi_mk H) = some (mi_cA b) := by
  unfold mi_aSpc at h
  unfold mm_aSpcF
  split at h
  · rename_i k m x tg hq
    simp only [hq]
    cases hk : (Nat.beq k 2 || Nat.beq k 3) with
    | false => rw [hk] at h; cases h
    | true =>
      rw [hk] at h
      rw [Bool.or_eq_true] at hk
      rw [if_pos (hk.elim (fun e => Or.inl (Nat.eq_of_beq_eq_true e)) (fun e => Or.inr (Nat.eq_of_beq_eq_true e)))]
      dsimp only [cond] at h
      split at h
      · rename_i a hs
        rw [mi_cs_get hs]
        show (match tg with
          | [(_, M, _)] => mm_goVF M m (mi_cs st)
          | _ => none) = _
        split at h
        · exact mi_goV_ok h
        · cases h
      · cases h
  · cases h
theorem mi_aVrt_ok {H : mi_H} (h : mi_aVrt cn ix st = some b) : mm_aVrtF cn ix (mi_cs st) (mi_mk H) = some (mi_cA b) := by
  unfold mi_aVrt at h
  unfold mm_aVrtF
  split at h
  · rename_i k m x tg hq
    simp only [hq]
    cases hk : (Nat.beq k 4 || (Nat.beq k 5 || Nat.beq k 7)) with
    | false => rw [hk] at h; cases h
    | true =>
      rw [hk] at h
      rw [Bool.or_eq_true, Bool.or_eq_true] at hk
      rw [if_pos (hk.elim (fun e => Or.inl (Nat.eq_of_beq_eq_true e)) (fun e => Or.inr (e.elim (fun e => Or.inl (Nat.eq_of_beq_eq_true e)) (fun e => Or.inr (Nat.eq_of_beq_eq_true e)))))]
      dsimp only [cond] at h
      split at h
      · rename_i a hs
        rw [mi_cs_get hs]
        show (match mm_obj (mi_mk H) a with
          | some (cj, _) => (match mm_lk tg cj with
            | some q => mm_goVF q.1 m (mi_cs st)
            | none => none)
          | none => none) = _
        split at h
        · rename_i cj hob
          rw [mi_obj_ok hob]
          dsimp only
          split at h
          · rename_i q hl
            rw [hl]
            exact mi_goV_ok h
          · cases h
        · cases h
      · cases h
  · cases h
theorem mi_iret_ok {M : Nat} {H : mi_H} (h : (match st with
      | [.inl v] => if (mm_mt M).2.2.1 = some .int ∨ ((mm_mt M).2.2.1 = some .boolean ∧ (v = 0 ∨ v = 1)) then some (Sum.inr (Sum.inl (Sum.inl (some (Sum.inl v)), H))) else none
      | _ => none : Option mi_Ac) = some b) : (match mi_cs st with
      | [.int v] => if (mm_mt M).2.2.1 = some .int ∨ ((mm_mt M).2.2.1 = some .boolean ∧ (v = 0 ∨ v = 1)) then some (Sum.inr (Sum.inl (Sum.inl (some (.int v)), mi_mk H))) else none
      | _ => none : Option mm_Ac) = some (mi_cA b) := by
  split at h
  · rename_i v
    split at h
    · rename_i hc
      cases h
      show (if (mm_mt M).2.2.1 = some .int ∨ ((mm_mt M).2.2.1 = some .boolean ∧ (Int32.ofInt v = 0 ∨ Int32.ofInt v = 1)) then some (Sum.inr (Sum.inl (Sum.inl (some (Value.int (Int32.ofInt v))), mi_mk H))) else none) = _
      rw [if_pos]
      · rfl
      · rcases hc with hc | ⟨hc, rfl | rfl⟩
        · exact Or.inl hc
        · exact Or.inr ⟨hc, Or.inl rfl⟩
        · exact Or.inr ⟨hc, Or.inr rfl⟩
    · cases h
  · cases h
theorem mi_aret_ok {M : Nat} {H : mi_H} (h : (match st with
      | [.inr (.inl a)] => if (mm_mt M).2.2.1 = some (.array .byte) then some (Sum.inr (Sum.inl (Sum.inl (some (Sum.inr (Sum.inl a))), H))) else none
      | _ => none : Option mi_Ac) = some b) : (match mi_cs st with
      | [.ref a] => if (mm_mt M).2.2.1 = some (.array .byte) then some (Sum.inr (Sum.inl (Sum.inl (some (.ref a)), mi_mk H))) else none
      | _ => none : Option mm_Ac) = some (mi_cA b) := by
  split at h
  · rename_i a
    split at h
    · rename_i hc
      cases h
      show (if (mm_mt M).2.2.1 = some (.array .byte) then some (Sum.inr (Sum.inl (Sum.inl (some (Value.ref a)), mi_mk H))) else none) = _
      rw [if_pos hc]
      rfl
    · cases h
  · cases h
theorem mi_vret_ok {M : Nat} {H : mi_H} (h : (match st with
      | [] => if (mm_mt M).2.2.1 = none then some (Sum.inr (Sum.inl (Sum.inl none, H))) else none
      | _ => none : Option mi_Ac) = some b) : (match mi_cs st with
      | [] => if (mm_mt M).2.2.1 = none then some (Sum.inr (Sum.inl (Sum.inl none, mi_mk H))) else none
      | _ => none : Option mm_Ac) = some (mi_cA b) := by
  split at h
  · split at h
    · rename_i hc
      cases h
      show (if (mm_mt M).2.2.1 = none then some (Sum.inr (Sum.inl (Sum.inl none, mi_mk H))) else none) = _
      rw [if_pos hc]
      rfl
    · cases h
  · cases h
theorem mi_dflt_ok {i : Instr} {H : mi_H} (h : (match mi_pure i pc ls st with
      | some q => some (Sum.inl (q.1, q.2.1, q.2.2, H))
      | none => none : Option mi_Ac) = some b) : (match mm_pure i pc (mi_cl ls) (mi_cs st) with
      | some q => some (Sum.inl (q.1, q.2.1, q.2.2, mi_mk H))
      | none => none : Option mm_Ac) = some (mi_cA b) := by
  split at h
  · rename_i q hq
    rw [mi_pure_ok hq]
    cases h
    rfl
  · cases h
set_option maxHeartbeats 8000000 in
theorem mi_act_ok (hZ : ∀ j m f, Zi j = some (m, f) → Z j = some (m, fun i => Int32.ofInt (f i))) {M : Nat} {S : mi_S} (h : mi_act Zi M S = some b) : mm_act Z M (mi_cS S) = some (mi_cA b) := by
  obtain ⟨pc, ls, st, n, D, s, p, c⟩ := S
  apply mm_actF_le
  unfold mi_act at h
  unfold mm_actF
  show (match mm_kT M pc with | some (i, _) => _ | none => none) = _
  rcases hk : mm_kT M pc with _ | ⟨i, len⟩
  · simp only [hk] at h; cases h
  · simp only [hk] at h
    cases i <;> first | (cases h; done) | exact mi_dflt_ok h | (cases h; rfl) | exact mi_aGet_ok h | exact mi_aPut_ok h | exact mi_aSta_ok h | exact mi_aLdc_ok h | exact mi_aIld_ok hZ h | exact mi_aBld_ok h | exact mi_aLld_ok h | exact mi_aIst_ok h | exact mi_aBst_ok h | exact mi_aLst_ok h | exact mi_aLen_ok hZ h | exact mi_aNwa_ok h | exact mi_aNew_ok h | exact mi_aStc_ok h | exact mi_aSpc_ok h | exact mi_aVrt_ok h | exact mi_iret_ok h | exact mi_aret_ok h | exact mi_vret_ok h
end MIC
