/-! the heap of the machine over whole numbers as a world of the small machine -/
def mi_fv (t : Nat) (x : Int) (q r : Nat) : Value := cond (Nat.ble t 1) (.int (Int32.ofInt x)) (cond (Nat.beq t 2) (.ref q) (.ref r))
def mi_fs (s : Nat → Int) (p : Nat → Nat) (a cj : Nat) : List Value := cond (Nat.ble 11 cj) [] ((List.range (mm_N cj)).map (fun k => mi_fv (mi_ft cj k) (s (100 * a + k)) (p (100 * a + k)) (mi_r0 (100 * a + k))))
def mi_ce (d : Nat × Nat) (s : Nat → Int) (p : Nat → Nat) (f : Nat → Int) (a : Nat) : mm_E := match d with
  | (0, n) => .inl (.int, n, .inl (fun i => Int32.ofInt (f i)))
  | (1, n) => .inl (.byte, n, .inl (fun i => Int32.ofInt (f i)))
  | (2, n) => .inl (.long, n, .inr (.inl (fun i => Int64.ofInt (f i))))
  | (k + 3, _) => .inr (k, mi_fs s p a k)
abbrev mi_cell (H : mi_H) (a : Nat) : mm_E := mi_ce (mi_dsc H.2.1 a) H.2.2.1 H.2.2.2.1 (H.2.2.2.2 a) a
def mi_mk (H : mi_H) : mm_W := (List.range (48 + H.1)).map (mi_cell H)
def mi_cS (S : mi_S) : mm_S := (S.1, mi_cl S.2.1, mi_cs S.2.2.1, mi_mk S.2.2.2)
def mi_cr (r : mi_Rs) : mm_Rs := match r with
  | .inl v => .inl (v.map mi_cv)
  | .inr x => .inr x
def mi_cA (a : mi_Ac) : mm_Ac := match a with
  | .inl S => .inl (mi_cS S)
  | .inr (.inl r) => .inr (.inl (mi_cr r.1, mi_mk r.2))
  | .inr (.inr q) => .inr (.inr (q.1, mi_cl q.2.1, mi_cs q.2.2))
theorem mi_mk_len (H : mi_H) : (mi_mk H).length = 48 + H.1 := by simp [mi_mk]
theorem mi_mk_get {H : mi_H} {a : Nat} (h : a < 48 + H.1) : (mi_mk H)[a]? = some (mi_cell H a) := by
  unfold mi_mk
  rw [List.getElem?_map, List.getElem?_range h]
  rfl
theorem mi_mk_set {H H' : mi_H} {a : Nat} {E : mm_E} (hn : H'.1 = H.1) (he : mi_cell H' a = E) (ho : ∀ b, b ≠ a → mi_cell H' b = mi_cell H b) : (mi_mk H).set a E = mi_mk H' := by
  apply List.ext_getElem?
  intro j
  rw [List.getElem?_set, mi_mk_len]
  by_cases hl : j < 48 + H.1
  · rw [mi_mk_get (H := H') (by rw [hn]; exact hl)]
    by_cases hj : a = j
    · subst hj
      rw [if_pos rfl, if_pos hl, he]
    · rw [if_neg hj, mi_mk_get hl, ho j (Ne.symm hj)]
  · have e1 : (mi_mk H')[j]? = none := List.getElem?_eq_none (by rw [mi_mk_len, hn]; omega)
    have e2 : (mi_mk H)[j]? = none := List.getElem?_eq_none (by rw [mi_mk_len]; omega)
    rw [e1]
    split
    · rename_i hj
      subst hj
      rw [if_neg hl]
    · exact e2
theorem mi_mk_push {H H' : mi_H} {E : mm_E} (hn : H'.1 = H.1 + 1) (he : mi_cell H' (48 + H.1) = E) (ho : ∀ b, b < 48 + H.1 → mi_cell H' b = mi_cell H b) : mi_mk H ++ [E] = mi_mk H' := by
  unfold mi_mk
  rw [hn, show 48 + (H.1 + 1) = (48 + H.1) + 1 by omega, List.range_succ, List.map_append]
  congr 1
  · apply List.map_congr_left
    intro b hb
    exact (ho b (List.mem_range.mp hb)).symm
  · show [E] = [mi_cell H' (48 + H.1)]
    rw [he]
/-! objects -/
theorem mi_ble_f {a b : Nat} (h : Nat.ble a b = false) : b < a := by
  apply Nat.lt_of_not_le
  intro hq
  rw [Nat.ble_eq_true_of_le hq] at h
  cases h
theorem mi_ble_t {a b : Nat} (h : b < a) : Nat.ble a b = false := by
  cases hb : Nat.ble a b with
  | false => rfl
  | true => have := Nat.le_of_ble_eq_true hb; omega
theorem mi_ob_ok {a cj : Nat} (h : mi_ob a = some cj) : a < 48 ∧ ∃ m, mi_d0 a = (cj + 3, m) := by
  unfold mi_ob at h
  cases hb : Nat.ble 48 a with
  | true => rw [hb] at h; cases h
  | false =>
    rw [hb] at h
    refine ⟨mi_ble_f hb, ?_⟩
    change (match mi_d0 a with
      | (k + 3, _) => some k
      | _ => none) = some cj at h
    split at h
    · rename_i k m hq
      cases h
      exact ⟨m, hq⟩
    · cases h
theorem mi_d0_lt : ∀ a, a < 48 → (mi_d0 a).1 < 14 := by decide +kernel
theorem mi_ob_lt {a cj : Nat} (h : mi_ob a = some cj) : cj < 11 := by
  obtain ⟨h1, m, h2⟩ := mi_ob_ok h
  have := mi_d0_lt a h1
  rw [h2] at this
  dsimp only at this
  omega
theorem mi_dsc_lt {D : Nat → Nat × Nat} {a : Nat} (h : a < 48) : mi_dsc D a = mi_d0 a := by
  unfold mi_dsc
  rw [mi_ble_t h]
  rfl
theorem mi_cell_ob {H : mi_H} {a cj : Nat} (h : mi_ob a = some cj) : mi_cell H a = .inr (cj, mi_fs H.2.2.1 H.2.2.2.1 a cj) := by
  obtain ⟨h1, m, h2⟩ := mi_ob_ok h
  unfold mi_cell
  rw [mi_dsc_lt h1, h2]
  rfl
theorem mi_obj_ok {H : mi_H} {a cj : Nat} (h : mi_ob a = some cj) : mm_obj (mi_mk H) a = some (cj, mi_fs H.2.2.1 H.2.2.2.1 a cj) := by
  have h1 := (mi_ob_ok h).1
  unfold mm_obj
  rw [if_pos (by omega), mi_mk_get (by omega), mi_cell_ob h]
theorem mi_N_lt : ∀ cj, cj < 11 → mm_N cj ≤ 63 := by decide +kernel
theorem mi_fs_eq {s : Nat → Int} {p : Nat → Nat} {a cj : Nat} (h : cj < 11) : mi_fs s p a cj = (List.range (mm_N cj)).map (fun k => mi_fv (mi_ft cj k) (s (100 * a + k)) (p (100 * a + k)) (mi_r0 (100 * a + k))) := by
  unfold mi_fs
  rw [mi_ble_t h]
  rfl
theorem mi_fs_get {s : Nat → Int} {p : Nat → Nat} {a cj k : Nat} (h : cj < 11) (hk : k < mm_N cj) : (mi_fs s p a cj)[k]? = some (mi_fv (mi_ft cj k) (s (100 * a + k)) (p (100 * a + k)) (mi_r0 (100 * a + k))) := by
  rw [mi_fs_eq h, List.getElem?_map, List.getElem?_range hk]
  rfl
theorem mi_fs_len {s : Nat → Int} {p : Nat → Nat} {a cj : Nat} (h : cj < 11) : (mi_fs s p a cj).length = mm_N cj := by
  rw [mi_fs_eq h]; simp
def mi_rf (t : FieldType) : Bool := match t with
  | .object _ => true
  | .array _ => true
  | _ => false
def mi_ftB (cj k : Nat) : Bool := match mi_ft cj k with
  | 0 => decide (mm_ty0 cj k = .int) && !(mm_T cj k).2.2.2
  | 1 => decide (mm_ty0 cj k = .boolean) && !(mm_T cj k).2.2.2
  | 2 => mi_rf (mm_ty0 cj k) && !(mm_T cj k).2.2.2
  | _ => mi_rf (mm_ty0 cj k)
theorem mi_ft_ok : ∀ cj, cj < 11 → ∀ k, k < mm_N cj → mi_ftB cj k = true := by decide +kernel
theorem mi_fits_rf {t : FieldType} {q : Nat} (h : mi_rf t = true) : mm_fits t (.ref q) = true := by
  cases t <;> first | rfl | cases h
theorem us_ne {s : Nat → Int} {k j : Nat} {v : Int} (h : j ≠ k) : us s k v j = s j := by
  unfold us
  cases hb : Nat.beq j k with
  | false => rfl
  | true => exact absurd (Nat.eq_of_beq_eq_true hb) h
theorem us_eq {s : Nat → Int} {k : Nat} {v : Int} : us s k v k = v := by
  unfold us
  rw [Nat.beq_refl]
  rfl
theorem up_ne {s : Nat → Nat} {k j : Nat} {v : Nat} (h : j ≠ k) : up s k v j = s j := by
  unfold up
  cases hb : Nat.beq j k with
  | false => rfl
  | true => exact absurd (Nat.eq_of_beq_eq_true hb) h
theorem up_eq {s : Nat → Nat} {k : Nat} {v : Nat} : up s k v k = v := by
  unfold up
  rw [Nat.beq_refl]
  rfl
theorem uc_ne {s : Nat → Nat → Int} {k j : Nat} {v : Nat → Int} (h : j ≠ k) : uc s k v j = s j := by
  unfold uc
  cases hb : Nat.beq j k with
  | false => rfl
  | true => exact absurd (Nat.eq_of_beq_eq_true hb) h
theorem uc_eq {s : Nat → Nat → Int} {k : Nat} {v : Nat → Int} : uc s k v k = v := by
  unfold uc
  rw [Nat.beq_refl]
  rfl
theorem ud_ne {s : Nat → Nat × Nat} {k j : Nat} {v : Nat × Nat} (h : j ≠ k) : ud s k v j = s j := by
  unfold ud
  cases hb : Nat.beq j k with
  | false => rfl
  | true => exact absurd (Nat.eq_of_beq_eq_true hb) h
theorem ud_eq {s : Nat → Nat × Nat} {k : Nat} {v : Nat × Nat} : ud s k v k = v := by
  unfold ud
  rw [Nat.beq_refl]
  rfl
theorem mi_fs_ne {s s' : Nat → Int} {p p' : Nat → Nat} {b cj : Nat} (hs : ∀ k, k < 100 → s' (100 * b + k) = s (100 * b + k)) (hp : ∀ k, k < 100 → p' (100 * b + k) = p (100 * b + k)) : mi_fs s' p' b cj = mi_fs s p b cj := by
  unfold mi_fs
  cases hb : Nat.ble 11 cj with
  | true => rfl
  | false =>
    have hc := mi_N_lt cj (mi_ble_f hb)
    show (List.range (mm_N cj)).map _ = (List.range (mm_N cj)).map _
    apply List.map_congr_left
    intro k hk
    have hk := List.mem_range.mp hk
    rw [hs k (by omega), hp k (by omega)]
theorem mi_ce_ne {d : Nat × Nat} {s s' : Nat → Int} {p p' : Nat → Nat} {f : Nat → Int} {b : Nat} (hs : ∀ k, k < 100 → s' (100 * b + k) = s (100 * b + k)) (hp : ∀ k, k < 100 → p' (100 * b + k) = p (100 * b + k)) : mi_ce d s' p' f b = mi_ce d s p f b := by
  unfold mi_ce
  split
  · rfl
  · rfl
  · rfl
  · rw [mi_fs_ne hs hp]
theorem mi_fs_us {s : Nat → Int} {p : Nat → Nat} {a cj k : Nat} {x : Int} (h : cj < 11) (ht : Nat.ble (mi_ft cj k) 1 = true) : (mi_fs s p a cj).set k (.int (Int32.ofInt x)) = mi_fs (us s (100 * a + k) x) p a cj := by
  apply List.ext_getElem?
  intro j
  rw [List.getElem?_set, mi_fs_len h]
  by_cases hl : j < mm_N cj
  · rw [mi_fs_get (s := us s (100 * a + k) x) h hl]
    by_cases hj : k = j
    · subst hj
      rw [if_pos rfl, if_pos hl, us_eq]
      unfold mi_fv
      rw [ht]
      rfl
    · rw [if_neg hj, mi_fs_get h hl, us_ne (by omega)]
  · have e1 : (mi_fs (us s (100 * a + k) x) p a cj)[j]? = none := List.getElem?_eq_none (by rw [mi_fs_len h]; omega)
    have e2 : (mi_fs s p a cj)[j]? = none := List.getElem?_eq_none (by rw [mi_fs_len h]; omega)
    rw [e1]
    split
    · rename_i hj
      subst hj
      rw [if_neg hl]
    · exact e2
theorem mi_fs_up {s : Nat → Int} {p : Nat → Nat} {a cj k q : Nat} (h : cj < 11) (ht : mi_ft cj k = 2) : (mi_fs s p a cj).set k (.ref q) = mi_fs s (up p (100 * a + k) q) a cj := by
  apply List.ext_getElem?
  intro j
  rw [List.getElem?_set, mi_fs_len h]
  by_cases hl : j < mm_N cj
  · rw [mi_fs_get (p := up p (100 * a + k) q) h hl]
    by_cases hj : k = j
    · subst hj
      rw [if_pos rfl, if_pos hl, up_eq]
      unfold mi_fv
      rw [ht]
      rfl
    · rw [if_neg hj, mi_fs_get h hl, up_ne (by omega)]
  · have e1 : (mi_fs s (up p (100 * a + k) q) a cj)[j]? = none := List.getElem?_eq_none (by rw [mi_fs_len h]; omega)
    have e2 : (mi_fs s p a cj)[j]? = none := List.getElem?_eq_none (by rw [mi_fs_len h]; omega)
    rw [e1]
    split
    · rename_i hj
      subst hj
      rw [if_neg hl]
    · exact e2
section MIG
variable {cn ix pc : Nat} {ls : List (Option mi_V)} {st : List mi_V} {n : Nat} {D : Nat → Nat × Nat} {s : Nat → Int} {p : Nat → Nat} {c : Nat → Nat → Int} {b : mi_Ac}
theorem mi_mk_us {a cj k : Nat} {x : Int} (h : mi_ob a = some cj) (hk : k < mm_N cj) (ht : Nat.ble (mi_ft cj k) 1 = true) : (mi_mk (n, D, s, p, c)).set a (.inr (cj, (mi_fs s p a cj).set k (.int (Int32.ofInt x)))) = mi_mk (n, D, us s (100 * a + k) x, p, c) := by
  have hN := mi_N_lt cj (mi_ob_lt h)
  refine mi_mk_set rfl ?_ ?_
  · rw [mi_cell_ob h, mi_fs_us (mi_ob_lt h) ht]
  · intro j hj
    exact mi_ce_ne (fun i hi => us_ne (by omega)) (fun i hi => rfl)
theorem mi_mk_up {a cj k q : Nat} (h : mi_ob a = some cj) (hk : k < mm_N cj) (ht : mi_ft cj k = 2) : (mi_mk (n, D, s, p, c)).set a (.inr (cj, (mi_fs s p a cj).set k (.ref q))) = mi_mk (n, D, s, up p (100 * a + k) q, c) := by
  have hN := mi_N_lt cj (mi_ob_lt h)
  refine mi_mk_set rfl ?_ ?_
  · rw [mi_cell_ob h, mi_fs_up (mi_ob_lt h) ht]
  · intro j hj
    exact mi_ce_ne (fun i hi => rfl) (fun i hi => up_ne (by omega))
theorem mi_aGet_ok (h : mi_aGet cn ix pc ls st (n, D, s, p, c) = some b) : mm_aGetF cn ix pc (mi_cl ls) (mi_cs st) (mi_mk (n, D, s, p, c)) = some (mi_cA b) := by
  unfold mi_aGet at h
  split at h
  · rename_i a r
    split at h
    · rename_i cj hob
      split at h
      · rename_i k hf
        cases hk : Nat.ble (k + 1) (mm_N cj) with
        | false => rw [hk] at h; cases h
        | true =>
          rw [hk] at h
          have hk' : k < mm_N cj := Nat.le_of_ble_eq_true hk
          show mm_aGetF cn ix pc (mi_cl ls) (.ref a :: mi_cs r) (mi_mk (n, D, s, p, c)) = _
          unfold mm_aGetF
          simp only [mi_obj_ok hob, hf, mi_fs_get (mi_ob_lt hob) hk']
          unfold mi_fv
          cases ht : Nat.ble (mi_ft cj k) 1 with
          | true => rw [ht] at h; cases h; rfl
          | false =>
            rw [ht] at h
            cases h2 : Nat.beq (mi_ft cj k) 2 with
            | true => rw [h2] at h; cases h; rfl
            | false => rw [h2] at h; cases h; rfl
      · cases h
    · cases h
  · cases h
theorem mi_aPut_ok {M : Nat} (h : mi_aPut cn ix pc ls st (n, D, s, p, c) = some b) : mm_aPutF M cn ix pc (mi_cl ls) (mi_cs st) (mi_mk (n, D, s, p, c)) = some (mi_cA b) := by
  unfold mi_aPut at h
  split at h
  · rename_i x a r
    split at h
    · rename_i cj hob
      split at h
      · rename_i k hf
        cases hk : Nat.ble (k + 1) (mm_N cj) with
        | false => rw [hk] at h; cases h
        | true =>
          rw [hk] at h
          have hk' : k < mm_N cj := Nat.le_of_ble_eq_true hk
          have hB := mi_ft_ok cj (mi_ob_lt hob) k hk'
          show mm_aPutF M cn ix pc (mi_cl ls) (.int (Int32.ofInt x) :: .ref a :: mi_cs r) (mi_mk (n, D, s, p, c)) = _
          unfold mm_aPutF
          simp only [mi_obj_ok hob, hf]
          cases h0 : Nat.beq (mi_ft cj k) 0 with
          | true =>
            have e0 := Nat.eq_of_beq_eq_true h0
            rw [h0] at h
            cases h
            unfold mi_ftB at hB
            rw [e0] at hB
            change (decide (mm_ty0 cj k = .int) && !(mm_T cj k).2.2.2) = true at hB
            rw [Bool.and_eq_true, Bool.not_eq_true'] at hB
            have ht := of_decide_eq_true hB.1
            rw [if_pos ⟨by rw [mi_fs_len (mi_ob_lt hob)]; exact hk', by rw [ht]; rfl, Or.inl hB.2⟩, mi_mk_us hob hk' (by rw [e0]; rfl)]
            rfl
          | false =>
            rw [h0] at h
            cases h1 : Nat.beq (mi_ft cj k) 1 with
            | false => rw [h1] at h; cases h
            | true =>
              have e0 := Nat.eq_of_beq_eq_true h1
              rw [h1] at h
              dsimp only [cond] at h
              split at h
              · rename_i hx
                cases h
                unfold mi_ftB at hB
                rw [e0] at hB
                change (decide (mm_ty0 cj k = .boolean) && !(mm_T cj k).2.2.2) = true at hB
                rw [Bool.and_eq_true, Bool.not_eq_true'] at hB
                have ht := of_decide_eq_true hB.1
                have hft : mm_fits (mm_ty0 cj k) (.int (Int32.ofInt x)) = true := by
                  rw [ht]
                  rcases hx with rfl | rfl <;> rfl
                rw [if_pos ⟨by rw [mi_fs_len (mi_ob_lt hob)]; exact hk', hft, Or.inl hB.2⟩, mi_mk_us hob hk' (by rw [e0]; rfl)]
                rfl
              · cases h
      · cases h
    · cases h
  · rename_i q a r
    split at h
    · rename_i cj hob
      split at h
      · rename_i k hf
        cases hk : Nat.ble (k + 1) (mm_N cj) with
        | false => rw [hk] at h; cases h
        | true =>
          rw [hk] at h
          have hk' : k < mm_N cj := Nat.le_of_ble_eq_true hk
          have hB := mi_ft_ok cj (mi_ob_lt hob) k hk'
          show mm_aPutF M cn ix pc (mi_cl ls) (.ref q :: .ref a :: mi_cs r) (mi_mk (n, D, s, p, c)) = _
          unfold mm_aPutF
          simp only [mi_obj_ok hob, hf]
          cases h0 : Nat.beq (mi_ft cj k) 2 with
          | false => rw [h0] at h; cases h
          | true =>
            have e0 := Nat.eq_of_beq_eq_true h0
            rw [h0] at h
            cases h
            unfold mi_ftB at hB
            rw [e0] at hB
            change (mi_rf (mm_ty0 cj k) && !(mm_T cj k).2.2.2) = true at hB
            rw [Bool.and_eq_true, Bool.not_eq_true'] at hB
            rw [if_pos ⟨by rw [mi_fs_len (mi_ob_lt hob)]; exact hk', mi_fits_rf hB.1, Or.inl hB.2⟩, mi_mk_up hob hk' e0]
            rfl
      · cases h
    · cases h
  · cases h
theorem mi_aSta_ok {H : mi_H} (h : mi_aSta cn ix pc ls st H = some b) : mm_aSta cn ix pc (mi_cl ls) (mi_cs st) (mi_mk H) = some (mi_cA b) := by
  unfold mi_aSta at h
  unfold mm_aSta
  split at h
  · rename_i q hq
    simp only [hq]
    cases h
    rfl
  · cases h
theorem mi_aLdc_ok {H : mi_H} (h : mi_aLdc cn ix pc ls st H = some b) : mm_aLdc cn ix pc (mi_cl ls) (mi_cs st) (mi_mk H) = some (mi_cA b) := by
  unfold mi_aLdc at h
  unfold mm_aLdc
  split at h
  · rename_i q hq
    simp only [hq]
    cases h
    show some (Sum.inl (pc, mi_cl ls, .int q.1 :: mi_cs st, mi_mk H)) = some (Sum.inl (pc, mi_cl ls, .int (Int32.ofInt q.1.toInt) :: mi_cs st, mi_mk H))
    rw [Int32.ofInt_toInt]
  · cases h
end MIG
