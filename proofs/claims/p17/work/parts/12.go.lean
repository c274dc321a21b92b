/-! the small machine's steps are the machine's -/
theorem mm_dv_ok {ρ : Nat → Nat} : ∀ c, c < 11 → ∀ j, j < mm_N c → defaultValue (mm_ty0 c j) = vp_V ((mm_dv c).map (mm_rv ρ)) j := by
  intro c hc j hj
  have h : ∀ c, c < 11 → ∀ j, j < mm_N c → defaultValue (mm_ty0 c j) = (mm_dv c).getD j .null ∧ (mm_dv c).all (fun v => match v with | .ref _ => false | _ => true) = true := by decide +kernel
  obtain ⟨h1, h2⟩ := h c hc j hj
  have h3 : (mm_dv c).map (mm_rv ρ) = mm_dv c := by
    refine (List.map_congr_left (g := id) (fun v hv => ?_)).trans (List.map_id _)
    have := List.all_eq_true.mp h2 v hv
    cases v <;> first | rfl | cases this
  rw [h3]
  exact h1
section MG
variable {p : Program} {l : Launch} {e : Env} {R : Room} {s : State} {m : MethodId} {args : Array Value} {below : List Frame} {meth : Method} {c : Code} {H : Heap} {locs : List Loc} {cells slots : Nat} {Q : State → Prop}
variable {D : va_G} {cA : FieldType → ClassId} {Z : Nat → Option (Nat × (Nat → Int32))} {sa : Nat → Nat} {h0 M pc pc' : Nat} {w w' : mm_W} {ls ls' : List (Option Value)} {st st' : List Value} {real : Array Slot}
theorem mm_same {ref o n d : String} (hC : mm_Cx D cA Z sa h0 args s) (h : ref = o ∨ Cond.sameField ref o n d ∈ lw_tbl) : ∀ x, s.fieldFound? o n d = some x → s.fieldFound? ref n d = some x := by
  intro x hx
  rcases h with rfl | h
  · exact hx
  · exact u_same (hC.1 _ h) x hx
theorem mm_goGet (hF : mm_Fx M p e s m meth c) (hC : mm_Cx D cA Z sa h0 args s) (hH : mm_St D mm_cl (mm_rho h0 sa) cA h0 s w H locs cells) {ix : Nat} (hd : decode (mm_bytes M) pc = .ok (.getfield ix, 3)) (ha : mm_aGet (mm_cn M) ix pc ls st w = some (.inl (pc', ls', st', w')))
    (k : pc' = pc + 3 → ls' = ls → w' = w → W p l e R s m args below meth c H locs cells slots Q (F0 m (pc + 3) real (st'.map (mm_rv (mm_rho h0 sa))))) : W p l e R s m args below meth c H locs cells slots Q (F0 m pc real (st.map (mm_rv (mm_rho h0 sa)))) := by
  obtain ⟨hM, hx, hb, hml, ho, hr, hlk, hnm, htb, htr⟩ := hF
  have hcn := (mm_ms_ok M hM).2.1
  unfold mm_aGet at ha
  split at ha
  · rename_i a r
    split at ha
    · rename_i cj fs hobj
      split at ha
      · rename_i kk hk
        split at ha
        · rename_i v hv
          cases ha
          obtain ⟨ha1, ha2⟩ := mm_obj_ok hobj
          obtain ⟨ref, h1, h2, h3, h4⟩ := mm_fld_ok hcn hk
          show W p l e R s m args below meth c H locs cells slots Q (F0 m pc real (.ref (mm_rho h0 sa a) :: r.map (mm_rv (mm_rho h0 sa))))
          rw [mm_rho_lt ha1]
          exact mm_get hx hb hC.1 (mm_in cj (by omega)) ho hC.2.1 hH ha2 (mm_cl_at cj (by omega)) h2 (hC.1 _ h3) (mm_same hC h4) hv hd (k rfl rfl rfl)
        · cases ha
      · cases ha
    · cases ha
  · cases ha
theorem mm_goPut (hF : mm_Fx M p e s m meth c) (hC : mm_Cx D cA Z sa h0 args s) (hH : mm_St D mm_cl (mm_rho h0 sa) cA h0 s w H locs cells) {ix : Nat} (hd : decode (mm_bytes M) pc = .ok (.putfield ix, 3)) (ha : mm_aPut M (mm_cn M) ix pc ls st w = some (.inl (pc', ls', st', w')))
    (k : ∀ H1 locs1, pc' = pc + 3 → ls' = ls → w'.length = w.length → mm_sl w' = mm_sl w → mm_St D mm_cl (mm_rho h0 sa) cA h0 s w' H1 locs1 cells → W p l e R s m args below meth c H1 locs1 cells slots Q (F0 m (pc + 3) real (st'.map (mm_rv (mm_rho h0 sa))))) : W p l e R s m args below meth c H locs cells slots Q (F0 m pc real (st.map (mm_rv (mm_rho h0 sa)))) := by
  obtain ⟨hM, hx, hb, hml, ho, hr, hlk, hnm, htb, htr⟩ := hF
  have hcn := (mm_ms_ok M hM).2.1
  unfold mm_aPut at ha
  split at ha
  · rename_i v a r
    split at ha
    · rename_i cj fs hobj
      split at ha
      · rename_i kk hk
        split at ha
        · rename_i hcond
          cases ha
          obtain ⟨ha1, ha2⟩ := mm_obj_ok hobj
          obtain ⟨ref, h1, h2, h3, h4⟩ := mm_fld_ok hcn hk
          obtain ⟨hf1, hf2⟩ := mm_fits_ok (ρ := mm_rho h0 sa) hcond.2.1
          show W p l e R s m args below meth c H locs cells slots Q (F0 m pc real (mm_rv (mm_rho h0 sa) v :: .ref (mm_rho h0 sa a) :: _))
          rw [mm_rho_lt ha1]
          refine mm_put hx hb hC.1 (mm_in cj (by omega)) (mm_ty0 cj) (mm_tyok cj (by omega)) (mm_nm cj (by omega)) ho hC.2.1 hH ha2 (mm_cl_at cj (by omega)) h2 (hC.1 _ h3) (mm_same hC h4) ?_ hf1 hf2 hcond.1 hd (fun H1 locs1 hS => k H1 locs1 rfl rfl (List.length_set) (mm_sl_set _ _ _ _ ha2 rfl) hS)
          rcases hcond.2.2 with h5 | h5
          · exact Or.inl h5
          · exact Or.inr ⟨hnm.trans h5.1, h5.2⟩
        · cases ha
      · cases ha
    · cases ha
  · cases ha
theorem mm_goSta (hF : mm_Fx M p e s m meth c) (hC : mm_Cx D cA Z sa h0 args s) (hH : mm_St D mm_cl (mm_rho h0 sa) cA h0 s w H locs cells) {ix : Nat} (hd : decode (mm_bytes M) pc = .ok (.getstatic ix, 3)) (ha : mm_aSta (mm_cn M) ix pc ls st w = some (.inl (pc', ls', st', w')))
    (k : pc' = pc + 3 → ls' = ls → w' = w → W p l e R s m args below meth c H locs cells slots Q (F0 m (pc + 3) real (st'.map (mm_rv (mm_rho h0 sa))))) : W p l e R s m args below meth c H locs cells slots Q (F0 m pc real (st.map (mm_rv (mm_rho h0 sa)))) := by
  obtain ⟨hM, hx, hb, hml, ho, hr, hlk, hnm, htb, htr⟩ := hF
  have hcn := (mm_ms_ok M hM).2.1
  unfold mm_aSta at ha
  split at ha
  · rename_i q hq
    cases ha
    obtain ⟨h1, h2⟩ := mm_sp_ok _ hcn _ (mm_lk_mem _ _ _ hq)
    have k' := k rfl rfl rfl
    have e1 : mm_rv (mm_rho h0 sa) (.ref (1000000 + q.1)) = .ref (sa q.1) := by show Value.ref _ = _; rw [mm_rho_ge]
    rw [List.map_cons, e1] at k'
    exact va_gets hx hb (hC.2.2.1.2.1 q.1 h1) hH.2.1 ho (hC.1 _ (List.mem_of_getElem? h2)) (fun x hx => hx) hd k'
  · cases ha
theorem mm_goLdc (hF : mm_Fx M p e s m meth c) (hC : mm_Cx D cA Z sa h0 args s) {ix : Nat} (hd : decode (mm_bytes M) pc = .ok (.ldc ix, 2)) (ha : mm_aLdc (mm_cn M) ix (pc + 2) ls st w = some (.inl (pc', ls', st', w')))
    (k : pc' = pc + 2 → ls' = ls → w' = w → W p l e R s m args below meth c H locs cells slots Q (F0 m (pc + 2) real (st'.map (mm_rv (mm_rho h0 sa))))) : W p l e R s m args below meth c H locs cells slots Q (F0 m pc real (st.map (mm_rv (mm_rho h0 sa)))) := by
  obtain ⟨hM, hx, hb, hml, ho, hr, hlk, hnm, htb, htr⟩ := hF
  have hcn := (mm_ms_ok M hM).2.1
  unfold mm_aLdc at ha
  split at ha
  · rename_i q hq
    cases ha
    have h2 := mm_kp_ok _ hcn _ (mm_lk_mem _ _ _ hq)
    exact lv_ldc hx hb ho (hC.1 _ (List.mem_of_getElem? h2)) hd (k rfl rfl rfl)
  · cases ha
theorem mm_goIld (hF : mm_Fx M p e s m meth c) (hC : mm_Cx D cA Z sa h0 args s) (hH : mm_St D mm_cl (mm_rho h0 sa) cA h0 s w H locs cells) (hd : decode (mm_bytes M) pc = .ok (.iaload, 1)) (ha : mm_aIld Z pc ls st w = some (.inl (pc', ls', st', w')))
    (k : pc' = pc + 1 → ls' = ls → w' = w → W p l e R s m args below meth c H locs cells slots Q (F0 m (pc + 1) real (st'.map (mm_rv (mm_rho h0 sa))))) : W p l e R s m args below meth c H locs cells slots Q (F0 m pc real (st.map (mm_rv (mm_rho h0 sa)))) := by
  obtain ⟨hM, hx, hb, hml, ho, hr, hlk, hnm, htb, htr⟩ := hF
  unfold mm_aIld at ha
  split at ha
  · rename_i i a r
    show W p l e R s m args below meth c H locs cells slots Q (F0 m pc real (.int i :: .ref (mm_rho h0 sa a) :: r.map (mm_rv (mm_rho h0 sa))))
    split at ha
    · rename_i n f har
      split at ha
      · cases ha
      · rename_i hi
        cases ha
        obtain ⟨ha1, ha2⟩ := mm_ar_ok har
        rw [mm_rho_lt ha1]
        exact mm_iald hx hb hC.2.1 hH ha2 hi hd (k rfl rfl rfl)
    · cases ha
    · rename_i har
      split at ha
      · rename_i n f hold
        split at ha
        · cases ha
        · rename_i hi
          cases ha
          unfold mm_old at hold
          split at hold
          · cases hold
          · rename_i hge
            have e1 : mm_rho h0 sa a = sa (a - 1000000) := if_neg hge
            rw [e1]
            exact va_ti hx hb (hC.2.2.1.1 _ _ _ hold) hH.2.1 hi rfl hd (k rfl rfl rfl)
      · cases ha
  · cases ha
theorem mm_goBld (hF : mm_Fx M p e s m meth c) (hC : mm_Cx D cA Z sa h0 args s) (hH : mm_St D mm_cl (mm_rho h0 sa) cA h0 s w H locs cells) (hd : decode (mm_bytes M) pc = .ok (.baload, 1)) (ha : mm_aBld pc ls st w = some (.inl (pc', ls', st', w')))
    (k : pc' = pc + 1 → ls' = ls → w' = w → W p l e R s m args below meth c H locs cells slots Q (F0 m (pc + 1) real (st'.map (mm_rv (mm_rho h0 sa))))) : W p l e R s m args below meth c H locs cells slots Q (F0 m pc real (st.map (mm_rv (mm_rho h0 sa)))) := by
  obtain ⟨hM, hx, hb, hml, ho, hr, hlk, hnm, htb, htr⟩ := hF
  unfold mm_aBld at ha
  split at ha
  · rename_i i a r
    show W p l e R s m args below meth c H locs cells slots Q (F0 m pc real (.int i :: .ref (mm_rho h0 sa a) :: r.map (mm_rv (mm_rho h0 sa))))
    split at ha
    · rename_i n f har
      split at ha
      · cases ha
      · rename_i hi
        cases ha
        obtain ⟨ha1, ha2⟩ := mm_ar_ok har
        rw [mm_rho_lt ha1]
        exact mm_bald hx hb hC.2.1 hH ha2 hi hd (k rfl rfl rfl)
    · cases ha
  · cases ha
theorem mm_goLld (hF : mm_Fx M p e s m meth c) (hC : mm_Cx D cA Z sa h0 args s) (hH : mm_St D mm_cl (mm_rho h0 sa) cA h0 s w H locs cells) (hd : decode (mm_bytes M) pc = .ok (.laload, 1)) (ha : mm_aLld pc ls st w = some (.inl (pc', ls', st', w')))
    (k : pc' = pc + 1 → ls' = ls → w' = w → W p l e R s m args below meth c H locs cells slots Q (F0 m (pc + 1) real (st'.map (mm_rv (mm_rho h0 sa))))) : W p l e R s m args below meth c H locs cells slots Q (F0 m pc real (st.map (mm_rv (mm_rho h0 sa)))) := by
  obtain ⟨hM, hx, hb, hml, ho, hr, hlk, hnm, htb, htr⟩ := hF
  unfold mm_aLld at ha
  split at ha
  · rename_i i a r
    show W p l e R s m args below meth c H locs cells slots Q (F0 m pc real (.int i :: .ref (mm_rho h0 sa a) :: r.map (mm_rv (mm_rho h0 sa))))
    split at ha
    · rename_i n f har
      split at ha
      · cases ha
      · rename_i hi
        cases ha
        obtain ⟨ha1, ha2⟩ := mm_ar_ok har
        rw [mm_rho_lt ha1]
        exact mm_lald hx hb hC.2.1 hH ha2 hi hd (k rfl rfl rfl)
    · cases ha
  · cases ha
theorem mm_goIst (hF : mm_Fx M p e s m meth c) (hC : mm_Cx D cA Z sa h0 args s) (hH : mm_St D mm_cl (mm_rho h0 sa) cA h0 s w H locs cells) (hd : decode (mm_bytes M) pc = .ok (.iastore, 1)) (ha : mm_aIst pc ls st w = some (.inl (pc', ls', st', w')))
    (k : ∀ H1 locs1, pc' = pc + 1 → ls' = ls → w'.length = w.length → mm_sl w' = mm_sl w → mm_St D mm_cl (mm_rho h0 sa) cA h0 s w' H1 locs1 cells → W p l e R s m args below meth c H1 locs1 cells slots Q (F0 m (pc + 1) real (st'.map (mm_rv (mm_rho h0 sa))))) : W p l e R s m args below meth c H locs cells slots Q (F0 m pc real (st.map (mm_rv (mm_rho h0 sa)))) := by
  obtain ⟨hM, hx, hb, hml, ho, hr, hlk, hnm, htb, htr⟩ := hF
  unfold mm_aIst at ha
  split at ha
  · rename_i x i a r
    show W p l e R s m args below meth c H locs cells slots Q (F0 m pc real (.int x :: .int i :: .ref (mm_rho h0 sa a) :: r.map (mm_rv (mm_rho h0 sa))))
    split at ha
    · rename_i n f har
      split at ha
      · cases ha
      · rename_i hi
        cases ha
        obtain ⟨ha1, ha2⟩ := mm_ar_ok har
        rw [mm_rho_lt ha1]
        exact mm_iast hx hb hC.2.1 hH ha2 hi hd (fun H1 locs1 hS => k H1 locs1 rfl rfl List.length_set (mm_sl_set _ _ _ _ ha2 rfl) hS)
    · cases ha
  · cases ha
theorem mm_goBst (hF : mm_Fx M p e s m meth c) (hC : mm_Cx D cA Z sa h0 args s) (hH : mm_St D mm_cl (mm_rho h0 sa) cA h0 s w H locs cells) (hd : decode (mm_bytes M) pc = .ok (.bastore, 1)) (ha : mm_aBst pc ls st w = some (.inl (pc', ls', st', w')))
    (k : ∀ H1 locs1, pc' = pc + 1 → ls' = ls → w'.length = w.length → mm_sl w' = mm_sl w → mm_St D mm_cl (mm_rho h0 sa) cA h0 s w' H1 locs1 cells → W p l e R s m args below meth c H1 locs1 cells slots Q (F0 m (pc + 1) real (st'.map (mm_rv (mm_rho h0 sa))))) : W p l e R s m args below meth c H locs cells slots Q (F0 m pc real (st.map (mm_rv (mm_rho h0 sa)))) := by
  obtain ⟨hM, hx, hb, hml, ho, hr, hlk, hnm, htb, htr⟩ := hF
  unfold mm_aBst at ha
  split at ha
  · rename_i x i a r
    show W p l e R s m args below meth c H locs cells slots Q (F0 m pc real (.int x :: .int i :: .ref (mm_rho h0 sa a) :: r.map (mm_rv (mm_rho h0 sa))))
    split at ha
    · rename_i n f har
      split at ha
      · cases ha
      · rename_i hi
        cases ha
        obtain ⟨ha1, ha2⟩ := mm_ar_ok har
        rw [mm_rho_lt ha1]
        exact mm_bast hx hb hC.2.1 hH ha2 hi hd (fun H1 locs1 hS => k H1 locs1 rfl rfl List.length_set (mm_sl_set _ _ _ _ ha2 rfl) hS)
    · cases ha
  · cases ha
theorem mm_goLst (hF : mm_Fx M p e s m meth c) (hC : mm_Cx D cA Z sa h0 args s) (hH : mm_St D mm_cl (mm_rho h0 sa) cA h0 s w H locs cells) (hd : decode (mm_bytes M) pc = .ok (.lastore, 1)) (ha : mm_aLst pc ls st w = some (.inl (pc', ls', st', w')))
    (k : ∀ H1 locs1, pc' = pc + 1 → ls' = ls → w'.length = w.length → mm_sl w' = mm_sl w → mm_St D mm_cl (mm_rho h0 sa) cA h0 s w' H1 locs1 cells → W p l e R s m args below meth c H1 locs1 cells slots Q (F0 m (pc + 1) real (st'.map (mm_rv (mm_rho h0 sa))))) : W p l e R s m args below meth c H locs cells slots Q (F0 m pc real (st.map (mm_rv (mm_rho h0 sa)))) := by
  obtain ⟨hM, hx, hb, hml, ho, hr, hlk, hnm, htb, htr⟩ := hF
  unfold mm_aLst at ha
  split at ha
  · rename_i x i a r
    show W p l e R s m args below meth c H locs cells slots Q (F0 m pc real (.long x :: .int i :: .ref (mm_rho h0 sa a) :: r.map (mm_rv (mm_rho h0 sa))))
    split at ha
    · rename_i n f har
      split at ha
      · cases ha
      · rename_i hi
        cases ha
        obtain ⟨ha1, ha2⟩ := mm_ar_ok har
        rw [mm_rho_lt ha1]
        exact mm_last hx hb hC.2.1 hH ha2 hi hd (fun H1 locs1 hS => k H1 locs1 rfl rfl List.length_set (mm_sl_set _ _ _ _ ha2 rfl) hS)
    · cases ha
  · cases ha
theorem mm_goLen (hF : mm_Fx M p e s m meth c) (hC : mm_Cx D cA Z sa h0 args s) (hH : mm_St D mm_cl (mm_rho h0 sa) cA h0 s w H locs cells) (hd : decode (mm_bytes M) pc = .ok (.arraylength, 1)) (ha : mm_aLen Z pc ls st w = some (.inl (pc', ls', st', w')))
    (k : pc' = pc + 1 → ls' = ls → w' = w → W p l e R s m args below meth c H locs cells slots Q (F0 m (pc + 1) real (st'.map (mm_rv (mm_rho h0 sa))))) : W p l e R s m args below meth c H locs cells slots Q (F0 m pc real (st.map (mm_rv (mm_rho h0 sa)))) := by
  obtain ⟨hM, hx, hb, hml, ho, hr, hlk, hnm, htb, htr⟩ := hF
  unfold mm_aLen at ha
  split at ha
  · rename_i a r
    show W p l e R s m args below meth c H locs cells slots Q (F0 m pc real (.ref (mm_rho h0 sa a) :: r.map (mm_rv (mm_rho h0 sa))))
    split at ha
    · rename_i ty x har
      split at ha
      · rename_i ht
        cases ha
        obtain ⟨ha1, ha2⟩ := mm_ar_ok har
        rw [mm_rho_lt ha1]
        exact mm_alen hx hb hC.2.1 hH ha2 ht hd (k rfl rfl rfl)
      · cases ha
    · rename_i har
      split at ha
      · rename_i n f hold
        cases ha
        unfold mm_old at hold
        split at hold
        · cases hold
        · rename_i hge
          have e1 : mm_rho h0 sa a = sa (a - 1000000) := if_neg hge
          rw [e1]
          exact va_tlen hx hb (hC.2.2.1.1 _ _ _ hold) hH.2.1 rfl hd (k rfl rfl rfl)
      · cases ha
  · cases ha
theorem mm_goNwa (hF : mm_Fx M p e s m meth c) (hC : mm_Cx D cA Z sa h0 args s) (hH : mm_St D mm_cl (mm_rho h0 sa) cA h0 s w H locs cells) {t : ArrayType} (hd : decode (mm_bytes M) pc = .ok (.newarray t, 2)) (ha : mm_aNwa t pc ls st w = some (.inl (pc', ls', st', w')))
    (hcR : cells + (w'.length - w.length) ≤ R.cells) (hsR : slots + (mm_sl w' - mm_sl w) ≤ R.slots)
    (k : ∀ H1, pc' = pc + 2 → ls' = ls → w.length ≤ w'.length → mm_sl w ≤ mm_sl w' → mm_St D mm_cl (mm_rho h0 sa) cA h0 s w' H1 locs (cells + (w'.length - w.length)) → W p l e R s m args below meth c H1 locs (cells + (w'.length - w.length)) (slots + (mm_sl w' - mm_sl w)) Q (F0 m (pc + 2) real (st'.map (mm_rv (mm_rho h0 sa))))) : W p l e R s m args below meth c H locs cells slots Q (F0 m pc real (st.map (mm_rv (mm_rho h0 sa)))) := by
  obtain ⟨hM, hx, hb, hml, ho, hr, hlk, hnm, htb, htr⟩ := hF
  unfold mm_aNwa at ha
  split at ha
  · rename_i n r
    show W p l e R s m args below meth c H locs cells slots Q (F0 m pc real (.int n :: r.map (mm_rv (mm_rho h0 sa))))
    split at ha
    · rename_i ty z hz
      split at ha
      · cases ha
      · rename_i hn
        cases ha
        have hn1 : ¬ n < 0 := fun h => hn (Or.inl h)
        have hn2 : n.toNatClampNeg ≤ 60000000 := Nat.le_of_not_lt (fun h => hn (Or.inr (Or.inl h)))
        have hwl : w.length < 1000000 := Nat.lt_of_not_le (fun h => hn (Or.inr (Or.inr h)))
        have e1 : (w ++ [Sum.inl (ty, n.toNatClampNeg, z)]).length - w.length = 1 := by simp
        have e2 : mm_sl (w ++ [Sum.inl (ty, n.toNatClampNeg, z)]) - mm_sl w = n.toNatClampNeg := by rw [mm_sl_push]; show _ + n.toNatClampNeg - _ = _; omega
        have e3 : mm_rv (mm_rho h0 sa) (.ref w.length) = .ref (h0 + w.length) := by show Value.ref _ = _; rw [mm_rho_lt hwl]
        rw [e1] at hcR
        rw [e2] at hsR
        rw [e1, e2, List.map_cons, e3] at k
        have hty : newarray.typeOf t = ty ∧ (ty = .int ∨ ty = .byte ∨ ty = .long) ∧ (Cond.arrayClass ty ∈ lw_tbl) ∧ (∀ cA : ClassId, vp_cell cA (n.toNatClampNeg, z) = arrV cA n.toNatClampNeg (fun _ => defaultValue ty)) ∧ n.toNatClampNeg * componentBytes ty ≤ 536870912 := by
          cases t <;> simp only [mm_zero, Option.some.injEq, Prod.mk.injEq, reduceCtorEq] at hz
          · obtain ⟨rfl, rfl⟩ := hz
            exact ⟨rfl, Or.inr (Or.inl rfl), mm_arr_ok.2.1, fun _ => rfl, by show n.toNatClampNeg * 1 ≤ _; omega⟩
          · obtain ⟨rfl, rfl⟩ := hz
            exact ⟨rfl, Or.inl rfl, mm_arr_ok.1, fun _ => rfl, by show n.toNatClampNeg * 4 ≤ _; omega⟩
          · obtain ⟨rfl, rfl⟩ := hz
            exact ⟨rfl, Or.inr (Or.inr rfl), mm_arr_ok.2.2, fun _ => rfl, by show n.toNatClampNeg * 8 ≤ _; omega⟩
        exact mm_newa hx hb hty.1 hty.2.1 (hC.1 _ hty.2.2.1) hC.2.1 hH hty.2.2.2.1 hn1 rfl hty.2.2.2.2 hcR hsR hd (fun H1 hS => k H1 rfl rfl (by simp) (by rw [mm_sl_push]; omega) hS)
    · cases ha
  · cases ha
theorem mm_goNew (hF : mm_Fx M p e s m meth c) (hC : mm_Cx D cA Z sa h0 args s) (hH : mm_St D mm_cl (mm_rho h0 sa) cA h0 s w H locs cells) {ix : Nat} (hd : decode (mm_bytes M) pc = .ok (.new ix, 3)) (ha : mm_aNew M (mm_cn M) ix pc ls st w = some (.inl (pc', ls', st', w')))
    (hcR : cells + (w'.length - w.length) ≤ R.cells) (hsR : slots + (mm_sl w' - mm_sl w) ≤ R.slots)
    (k : ∀ H1, pc' = pc + 3 → ls' = ls → w.length ≤ w'.length → mm_sl w ≤ mm_sl w' → mm_St D mm_cl (mm_rho h0 sa) cA h0 s w' H1 locs (cells + (w'.length - w.length)) → W p l e R s m args below meth c H1 locs (cells + (w'.length - w.length)) (slots + (mm_sl w' - mm_sl w)) Q (F0 m (pc + 3) real (st'.map (mm_rv (mm_rho h0 sa))))) : W p l e R s m args below meth c H locs cells slots Q (F0 m pc real (st.map (mm_rv (mm_rho h0 sa)))) := by
  obtain ⟨hM, hx, hb, hml, ho, hr, hlk, hnm, htb, htr⟩ := hF
  have hcn := (mm_ms_ok M hM).2.1
  unfold mm_aNew at ha
  split at ha
  · rename_i q hq
    obtain ⟨h1, h2⟩ := mm_np_ok _ hcn _ (mm_lk_mem _ _ _ hq)
    split at ha
    · rename_i hq11
      split at ha
      · rename_i hwl
        cases ha
        have e1 : (w ++ [Sum.inr (q.1, mm_dv q.1)]).length - w.length = 1 := by simp
        have e2 : mm_sl (w ++ [Sum.inr (q.1, mm_dv q.1)]) - mm_sl w = mm_N q.1 := by rw [mm_sl_push]; show _ + (if q.1 < 11 then mm_N q.1 else 6) - _ = _; rw [if_pos hq11]; omega
        have e3 : mm_rv (mm_rho h0 sa) (.ref w.length) = .ref (h0 + w.length) := by show Value.ref _ = _; rw [mm_rho_lt hwl]
        rw [e1] at hcR
        rw [e2] at hsR
        rw [e1, e2, List.map_cons, e3] at k
        exact mm_new hx hb hC.1 (mm_in q.1 (by omega)) (mm_ty0 q.1) (mm_tyok q.1 (by omega)) ho (hC.1 _ (List.mem_of_getElem? h2)) (hC.1 _ (mm_made_ok q.1 hq11).1) (hC.1 _ (mm_made_ok q.1 hq11).2) hC.2.1 hH (mm_cl_at q.1 (by omega)) (mm_dv_ok q.1 hq11) hcR hsR hd (fun H1 hS => k H1 rfl rfl (by simp) (by rw [mm_sl_push]; omega) hS)
      · cases ha
    · split at ha
      · cases ha
      · cases ha
  · cases ha
end MG
