/-! rows, calls, whole runs of the machine over whole numbers -/
theorem mi_arr_ok {n : Nat} {D : Nat → Nat × Nat} {a t m : Nat} (h : mi_arr n D a = some (t, m)) : a < 48 + n ∧ a < 1000000 ∧ mi_dsc D a = (t, m) := by
  unfold mi_arr at h
  unfold mi_dsc
  cases hb : Nat.ble 48 a with
  | true =>
    rw [hb] at h
    dsimp only [cond] at h ⊢
    split at h
    · rename_i hc
      exact ⟨hc.2, hc.1, Option.some.inj h⟩
    · cases h
  | false =>
    rw [hb] at h
    have := mi_ble_f hb
    exact ⟨by omega, by omega, Option.some.inj h⟩
theorem mi_arr_no {n : Nat} {D : Nat → Nat × Nat} {a : Nat} (h : mi_arr n D a = none) : 48 + n ≤ a ∨ 1000000 ≤ a := by
  unfold mi_arr at h
  cases hb : Nat.ble 48 a with
  | true =>
    rw [hb] at h
    dsimp only [cond] at h
    split at h
    · cases h
    · rename_i hc
      omega
  | false => rw [hb] at h; cases h
theorem mi_ar_get {n : Nat} {D : Nat → Nat × Nat} {s : Nat → Int} {p : Nat → Nat} {c : Nat → Nat → Int} {a t m : Nat} (h : mi_arr n D a = some (t, m)) {q : FieldType × vp_A} (hq : mi_ce (t, m) s p (c a) a = .inl q) : mm_ar (mi_mk (n, D, s, p, c)) a = some q := by
  obtain ⟨h1, h2, h3⟩ := mi_arr_ok h
  unfold mm_ar
  rw [if_pos h2, mi_mk_get h1]
  unfold mi_cell
  dsimp only
  rw [h3, hq]
theorem mi_ar_none {n : Nat} {D : Nat → Nat × Nat} {s : Nat → Int} {p : Nat → Nat} {c : Nat → Nat → Int} {a : Nat} (h : mi_arr n D a = none) : mm_ar (mi_mk (n, D, s, p, c)) a = none := by
  unfold mm_ar
  split
  · rename_i hl
    have h1 : (mi_mk (n, D, s, p, c))[a]? = none := List.getElem?_eq_none (by rw [mi_mk_len]; rcases mi_arr_no h with q | q <;> (dsimp only; omega))
    rw [h1]
  · rfl
theorem mi_idx {i : Int} {m : Nat} (h : 0 ≤ i ∧ i < m ∧ i ≤ 2147483647) : ¬ (Int32.ofInt i < 0 ∨ m ≤ (Int32.ofInt i).toNatClampNeg) ∧ (Int32.ofInt i).toNatClampNeg = i.toNat := by
  have e : (Int32.ofInt i).toInt = i := mi_ti (by omega)
  have e2 : (Int32.ofInt i).toNatClampNeg = (Int32.ofInt i).toInt.toNat := rfl
  refine ⟨?_, by rw [e2, e]⟩
  rintro (hq | hq)
  · rw [Int32.lt_iff_toInt_lt, e] at hq
    have : (0 : Int32).toInt = 0 := rfl
    omega
  · rw [e2, e] at hq
    omega
theorem mi_upd {f : Nat → Int} {k : Nat} {x : Int} : (fun j => Int32.ofInt (ua f k x j)) = upd (fun j => Int32.ofInt (f j)) k (Int32.ofInt x) := by
  funext j
  unfold ua upd
  split <;> rfl
theorem mi_updL {f : Nat → Int} {k : Nat} {x : Int} : (fun j => Int64.ofInt (ua f k x j)) = vp_updL (fun j => Int64.ofInt (f j)) k (Int64.ofInt x) := by
  funext j
  unfold ua vp_updL
  split <;> rfl
section MIR
variable {cn ix pc : Nat} {ls : List (Option mi_V)} {st : List mi_V} {n : Nat} {D : Nat → Nat × Nat} {s : Nat → Int} {p : Nat → Nat} {c : Nat → Nat → Int} {b : mi_Ac}
variable {Zi : Nat → Option (Nat × (Nat → Int))} {Z : Nat → Option (Nat × (Nat → Int32))}
theorem mi_mk_uc {a t m : Nat} {f : Nat → Int} {E : mm_E} (h : mi_arr n D a = some (t, m)) (hE : mi_ce (t, m) s p f a = E) : (mi_mk (n, D, s, p, c)).set a E = mi_mk (n, D, s, p, uc c a f) := by
  obtain ⟨h1, h2, h3⟩ := mi_arr_ok h
  refine mi_mk_set rfl ?_ ?_
  · show mi_ce (mi_dsc D a) s p (uc c a f a) a = E
    rw [uc_eq, h3, hE]
  · intro j hj
    show mi_ce (mi_dsc D j) s p (uc c a f j) j = mi_ce (mi_dsc D j) s p (c j) j
    rw [uc_ne hj]
theorem mi_mk_new {t m : Nat} {f : Nat → Int} {E : mm_E} (hE : mi_ce (t, m) s p f (48 + n) = E) : mi_mk (n, D, s, p, c) ++ [E] = mi_mk (n + 1, ud D (48 + n) (t, m), s, p, uc c (48 + n) f) := by
  have hb : Nat.ble 48 (48 + n) = true := Nat.ble_eq_true_of_le (by omega)
  refine mi_mk_push rfl ?_ ?_
  · show mi_ce (mi_dsc (ud D (48 + n) (t, m)) (48 + n)) s p (uc c (48 + n) f (48 + n)) (48 + n) = E
    unfold mi_dsc
    rw [hb, uc_eq, ud_eq]
    exact hE
  · intro j hj
    have hj : j < 48 + n := hj
    show mi_ce (mi_dsc (ud D (48 + n) (t, m)) j) s p (uc c (48 + n) f j) j = mi_ce (mi_dsc D j) s p (c j) j
    unfold mi_dsc
    rw [uc_ne (by omega), ud_ne (by omega)]
theorem mi_mk_exc {x : Nat} (hx : 11 ≤ x) : mi_mk (n, D, s, p, c) ++ [.inr (x, [])] = mi_mk (n + 1, ud D (48 + n) (x + 3, 0), s, p, c) := by
  have hb : Nat.ble 48 (48 + n) = true := Nat.ble_eq_true_of_le (by omega)
  refine mi_mk_push rfl ?_ ?_
  · show mi_ce (mi_dsc (ud D (48 + n) (x + 3, 0)) (48 + n)) s p (c (48 + n)) (48 + n) = .inr (x, [])
    unfold mi_dsc
    rw [hb, ud_eq]
    show Sum.inr (x, mi_fs s p (48 + n) x) = _
    unfold mi_fs
    rw [Nat.ble_eq_true_of_le hx]
    rfl
  · intro j hj
    have hj : j < 48 + n := hj
    show mi_ce (mi_dsc (ud D (48 + n) (x + 3, 0)) j) s p (c j) j = mi_ce (mi_dsc D j) s p (c j) j
    unfold mi_dsc
    rw [ud_ne (by omega)]
theorem mi_old_ok (hZ : ∀ j m f, Zi j = some (m, f) → Z j = some (m, fun i => Int32.ofInt (f i))) {a m : Nat} {f : Nat → Int} (h : mi_old Zi a = some (m, f)) : mm_old Z a = some (m, fun i => Int32.ofInt (f i)) := by
  unfold mi_old at h
  unfold mm_old
  cases hb : Nat.ble 1000000 a with
  | false => rw [hb] at h; cases h
  | true =>
    rw [hb] at h
    have := Nat.le_of_ble_eq_true hb
    rw [if_neg (by omega)]
    exact hZ _ _ _ h
theorem mi_aIld_ok (hZ : ∀ j m f, Zi j = some (m, f) → Z j = some (m, fun i => Int32.ofInt (f i))) (h : mi_aIld Zi pc ls st (n, D, s, p, c) = some b) : mm_aIld Z pc (mi_cl ls) (mi_cs st) (mi_mk (n, D, s, p, c)) = some (mi_cA b) := by
  unfold mi_aIld at h
  split at h
  · rename_i i a r
    show mm_aIld Z pc (mi_cl ls) (.int (Int32.ofInt i) :: .ref a :: mi_cs r) (mi_mk (n, D, s, p, c)) = _
    unfold mm_aIld
    dsimp only at h ⊢
    split at h
    · rename_i m ha
      split at h
      · rename_i hi
        cases h
        obtain ⟨e1, e2⟩ := mi_idx hi
        rw [mi_ar_get ha rfl]
        dsimp only
        rw [if_neg e1, e2]
        rfl
      · cases h
    · cases h
    · rename_i ha
      rw [mi_ar_none ha]
      split at h
      · rename_i m f ho
        split at h
        · rename_i hi
          cases h
          obtain ⟨e1, e2⟩ := mi_idx hi
          rw [mi_old_ok hZ ho]
          dsimp only
          rw [if_neg e1, e2]
          rfl
        · cases h
      · cases h
  · cases h
theorem mi_aBld_ok (h : mi_aBld pc ls st (n, D, s, p, c) = some b) : mm_aBld pc (mi_cl ls) (mi_cs st) (mi_mk (n, D, s, p, c)) = some (mi_cA b) := by
  unfold mi_aBld at h
  split at h
  · rename_i i a r
    show mm_aBld pc (mi_cl ls) (.int (Int32.ofInt i) :: .ref a :: mi_cs r) (mi_mk (n, D, s, p, c)) = _
    unfold mm_aBld
    dsimp only at h ⊢
    split at h
    · rename_i m ha
      split at h
      · rename_i hi
        cases h
        obtain ⟨e1, e2⟩ := mi_idx hi
        rw [mi_ar_get ha rfl]
        dsimp only
        rw [if_neg e1, e2]
        rfl
      · cases h
    · cases h
  · cases h
theorem mi_aLld_ok (h : mi_aLld pc ls st (n, D, s, p, c) = some b) : mm_aLld pc (mi_cl ls) (mi_cs st) (mi_mk (n, D, s, p, c)) = some (mi_cA b) := by
  unfold mi_aLld at h
  split at h
  · rename_i i a r
    show mm_aLld pc (mi_cl ls) (.int (Int32.ofInt i) :: .ref a :: mi_cs r) (mi_mk (n, D, s, p, c)) = _
    unfold mm_aLld
    dsimp only at h ⊢
    split at h
    · rename_i m ha
      split at h
      · rename_i hi
        cases h
        obtain ⟨e1, e2⟩ := mi_idx hi
        rw [mi_ar_get ha rfl]
        dsimp only
        rw [if_neg e1, e2]
        rfl
      · cases h
    · cases h
  · cases h
theorem mi_aIst_ok (h : mi_aIst pc ls st (n, D, s, p, c) = some b) : mm_aIst pc (mi_cl ls) (mi_cs st) (mi_mk (n, D, s, p, c)) = some (mi_cA b) := by
  unfold mi_aIst at h
  split at h
  · rename_i x i a r
    show mm_aIst pc (mi_cl ls) (.int (Int32.ofInt x) :: .int (Int32.ofInt i) :: .ref a :: mi_cs r) (mi_mk (n, D, s, p, c)) = _
    unfold mm_aIst
    dsimp only at h ⊢
    split at h
    · rename_i m ha
      split at h
      · rename_i hi
        cases h
        obtain ⟨e1, e2⟩ := mi_idx hi
        rw [mi_ar_get ha rfl]
        dsimp only
        rw [if_neg e1, e2, mi_mk_uc (f := ua (c a) i.toNat x) ha (by rw [← mi_upd]; rfl)]
        rfl
      · cases h
    · cases h
  · cases h
theorem mi_aBst_ok (h : mi_aBst pc ls st (n, D, s, p, c) = some b) : mm_aBst pc (mi_cl ls) (mi_cs st) (mi_mk (n, D, s, p, c)) = some (mi_cA b) := by
  unfold mi_aBst at h
  split at h
  · rename_i x i a r
    show mm_aBst pc (mi_cl ls) (.int (Int32.ofInt x) :: .int (Int32.ofInt i) :: .ref a :: mi_cs r) (mi_mk (n, D, s, p, c)) = _
    unfold mm_aBst
    dsimp only at h ⊢
    split at h
    · rename_i m ha
      split at h
      · rename_i hi
        cases h
        obtain ⟨e1, e2⟩ := mi_idx hi
        rw [mi_ar_get ha rfl]
        dsimp only
        have e3 : vp_nar .byte (Int32.ofInt x) = Int32.ofInt (mi_nb x) := by unfold mi_nb; rw [Int32.ofInt_toInt]
        rw [if_neg e1, e2, e3, mi_mk_uc (f := ua (c a) i.toNat (mi_nb x)) ha (by rw [← mi_upd]; rfl)]
        rfl
      · cases h
    · cases h
  · cases h
theorem mi_aLst_ok (h : mi_aLst pc ls st (n, D, s, p, c) = some b) : mm_aLst pc (mi_cl ls) (mi_cs st) (mi_mk (n, D, s, p, c)) = some (mi_cA b) := by
  unfold mi_aLst at h
  split at h
  · rename_i x i a r
    show mm_aLst pc (mi_cl ls) (.long (Int64.ofInt x) :: .int (Int32.ofInt i) :: .ref a :: mi_cs r) (mi_mk (n, D, s, p, c)) = _
    unfold mm_aLst
    dsimp only at h ⊢
    split at h
    · rename_i m ha
      split at h
      · rename_i hi
        cases h
        obtain ⟨e1, e2⟩ := mi_idx hi
        rw [mi_ar_get ha rfl]
        dsimp only
        rw [if_neg e1, e2, mi_mk_uc (f := ua (c a) i.toNat x) ha (by rw [← mi_updL]; rfl)]
        rfl
      · cases h
    · cases h
  · cases h
theorem mi_aLen_ok (hZ : ∀ j m f, Zi j = some (m, f) → Z j = some (m, fun i => Int32.ofInt (f i))) (h : mi_aLen Zi pc ls st (n, D, s, p, c) = some b) : mm_aLen Z pc (mi_cl ls) (mi_cs st) (mi_mk (n, D, s, p, c)) = some (mi_cA b) := by
  unfold mi_aLen at h
  split at h
  · rename_i a r
    show mm_aLen Z pc (mi_cl ls) (.ref a :: mi_cs r) (mi_mk (n, D, s, p, c)) = _
    unfold mm_aLen
    dsimp only at h ⊢
    split at h
    · rename_i t m ha
      match t, ha, h with
      | 0, ha, h =>
        cases h
        rw [mi_ar_get ha rfl]
        dsimp only
        rw [if_pos (Or.inl rfl), ← Int32.ofInt_eq_ofNat]
        rfl
      | 1, ha, h =>
        cases h
        rw [mi_ar_get ha rfl]
        dsimp only
        rw [if_pos (Or.inr (Or.inl rfl)), ← Int32.ofInt_eq_ofNat]
        rfl
      | 2, ha, h =>
        cases h
        rw [mi_ar_get ha rfl]
        dsimp only
        rw [if_pos (Or.inr (Or.inr rfl)), ← Int32.ofInt_eq_ofNat]
        rfl
      | k + 3, ha, h => cases h
    · rename_i ha
      rw [mi_ar_none ha]
      split at h
      · rename_i m f ho
        cases h
        rw [mi_old_ok hZ ho]
        dsimp only
        rw [← Int32.ofInt_eq_ofNat]
        rfl
      · cases h
  · cases h
theorem mi_aNwa_ok {t : ArrayType} (h : mi_aNwa t pc ls st (n, D, s, p, c) = some b) : mm_aNwa t pc (mi_cl ls) (mi_cs st) (mi_mk (n, D, s, p, c)) = some (mi_cA b) := by
  unfold mi_aNwa at h
  split at h
  · rename_i m r
    show mm_aNwa t pc (mi_cl ls) (.int (Int32.ofInt m) :: mi_cs r) (mi_mk (n, D, s, p, c)) = _
    unfold mm_aNwa
    dsimp only at h ⊢
    have key : ∀ k, mi_tg t = some k → ∃ ty z, mm_zero t = some (ty, z) ∧ ∀ (q : Nat), mi_ce (k, q) s p (fun _ => 0) (48 + n) = .inl (ty, q, z) := by
      intro k hk
      cases t <;> first | (cases hk; exact ⟨_, _, rfl, fun q => rfl⟩) | cases hk
    split at h
    · rename_i k hk
      obtain ⟨ty, z, hz, hce⟩ := key k hk
      rw [hz]
      dsimp only
      split at h
      · rename_i hc
        cases h
        have e : (Int32.ofInt m).toInt = m := mi_ti (by omega)
        have e2 : (Int32.ofInt m).toNatClampNeg = m.toNat := by show (Int32.ofInt m).toInt.toNat = _; rw [e]
        rw [if_neg, mi_mk_len, e2, mi_mk_new (hce m.toNat)]
        · rfl
        · rw [e2, mi_mk_len]
          rintro (hq | hq | hq)
          · rw [Int32.lt_iff_toInt_lt, e] at hq
            have : (0 : Int32).toInt = 0 := rfl
            omega
          · omega
          · dsimp only at hq
            omega
      · cases h
    · cases h
  · cases h
theorem mi_cats_ok (r : List mi_V) : ((mi_cs r).map fun v => v.category).sum = mi_cats r := by
  unfold mi_cs mi_cats
  rw [List.map_map]
  congr 1
  apply List.map_congr_left
  intro v _
  exact mi_cat_ok v
theorem mi_aNew_ok {M : Nat} (h : mi_aNew M cn ix pc st (n, D, s, p, c) = some b) : mm_aNew M cn ix pc (mi_cl ls) (mi_cs st) (mi_mk (n, D, s, p, c)) = some (mi_cA b) := by
  unfold mi_aNew at h
  unfold mm_aNew
  split at h
  · rename_i q hq
    simp only [hq]
    dsimp only at h
    split at h
    · rename_i hc
      cases h
      rw [if_neg hc.1, if_pos ⟨hc.2.1, hc.2.2.1, by rw [mi_mk_len]; exact hc.2.2.2.1, by rw [mi_cats_ok]; exact hc.2.2.2.2⟩, mi_mk_exc (by omega)]
      rfl
    · cases h
  · cases h
theorem mi_c1s_ok {as : List mi_V} (h : mi_c1s as = true) : mm_cat1 (mi_cs as) = true := by
  unfold mi_c1s at h
  unfold mm_cat1 mi_cs
  rw [List.all_eq_true] at h ⊢
  intro v hv
  obtain ⟨u, hu, rfl⟩ := List.mem_map.mp hv
  exact decide_eq_true (mi_c1_ok (h u hu))
theorem mi_args_ok (as : List mi_V) (k : Nat) : (mi_cs as).reverse.map some ++ List.replicate (k - (mi_cs as).reverse.length) none = mi_cl (as.reverse.map some ++ List.replicate (k - as.reverse.length) none) := by
  unfold mi_cs mi_cl
  simp [List.map_reverse]
theorem mi_goS_ok {M k : Nat} (h : mi_goS M k st = some b) : mm_goSF M k (mi_cs st) = some (mi_cA b) := by
  unfold mi_goS at h
  unfold mm_goSF
  cases hM : Nat.ble M 200 with
  | false => rw [hM] at h; cases h
  | true =>
    rw [hM] at h
    dsimp only [cond] at h ⊢
    cases hc : (Nat.ble k st.length && (Nat.ble k (mm_mt M).2.2.2.1 && (mi_c1s (st.take k) && Nat.ble (mi_cats (st.drop k)) 8))) with
    | false => rw [hc] at h; cases h
    | true =>
      rw [hc] at h
      cases h
      rw [Bool.and_eq_true, Bool.and_eq_true, Bool.and_eq_true] at hc
      have e1 : (mi_cs st).take k = mi_cs (st.take k) := by unfold mi_cs; rw [List.map_take]
      have e2 : (mi_cs st).drop k = mi_cs (st.drop k) := by unfold mi_cs; rw [List.map_drop]
      have e3 : (mi_cs st).length = st.length := by unfold mi_cs; rw [List.length_map]
      rw [e1, e2, e3, if_pos ⟨Nat.le_of_ble_eq_true hc.1, Nat.le_of_ble_eq_true hc.2.1, mi_c1s_ok hc.2.2.1, by rw [mi_cats_ok]; exact Nat.le_of_ble_eq_true hc.2.2.2⟩, mi_args_ok]
      rfl
theorem mi_goV_ok {M k : Nat} (h : mi_goS M (k + 1) st = some b) : mm_goVF M k (mi_cs st) = some (mi_cA b) := by
  unfold mi_goS at h
  unfold mm_goVF
  cases hM : Nat.ble M 200 with
  | false => rw [hM] at h; cases h
  | true =>
    rw [hM] at h
    dsimp only [cond] at h ⊢
    cases hc : (Nat.ble (k + 1) st.length && (Nat.ble (k + 1) (mm_mt M).2.2.2.1 && (mi_c1s (st.take (k + 1)) && Nat.ble (mi_cats (st.drop (k + 1))) 8))) with
    | false => rw [hc] at h; cases h
    | true =>
      rw [hc] at h
      cases h
      rw [Bool.and_eq_true, Bool.and_eq_true, Bool.and_eq_true] at hc
      have e1 : (mi_cs st).take (k + 1) = mi_cs (st.take (k + 1)) := by unfold mi_cs; rw [List.map_take]
      have e0 : (mi_cs st).take k = mi_cs (st.take k) := by unfold mi_cs; rw [List.map_take]
      have e2 : (mi_cs st).drop (k + 1) = mi_cs (st.drop (k + 1)) := by unfold mi_cs; rw [List.map_drop]
      have e3 : (mi_cs st).length = st.length := by unfold mi_cs; rw [List.length_map]
      have h4 : mi_c1s (st.take k) = true := by
        have h5 := hc.2.2.1
        unfold mi_c1s at h5 ⊢
        rw [List.all_eq_true] at h5 ⊢
        intro v hv
        exact h5 v (List.take_subset_take_left st (Nat.le_succ k) hv)
      rw [e0, e1, e2, e3, if_pos ⟨Nat.le_of_ble_eq_true hc.1, Nat.le_of_ble_eq_true hc.2.1, mi_c1s_ok h4, by rw [mi_cats_ok]; exact Nat.le_of_ble_eq_true hc.2.2.2⟩, mi_args_ok]
      rfl
end MIR
