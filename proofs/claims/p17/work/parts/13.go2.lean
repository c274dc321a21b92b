section MG2
variable {p : Program} {l : Launch} {e : Env} {R : Room} {s : State} {m : MethodId} {args : Array Value} {below : List Frame} {meth : Method} {c : Code} {H : Heap} {locs : List Loc} {cells slots : Nat} {Q : State → Prop}
variable {D : va_G} {cA : FieldType → ClassId} {Z : Nat → Option (Nat × (Nat → Int32))} {sa : Nat → Nat} {h0 M pc pc' : Nat} {w w' : mm_W} {ls ls' : List (Option Value)} {st st' : List Value} {real : Array Slot}
theorem mm_catsum (ρ : Nat → Nat) (r : List Value) : ((r.map (mm_rv ρ)).map fun v => v.category).sum = (r.map fun v => v.category).sum := by
  rw [List.map_map]
  congr 1
  apply List.map_congr_left
  intro v _
  exact mm_rv_cat ρ v
theorem mm_goCpy (hF : mm_Fx M p e s m meth c) (hC : mm_Cx D cA Z sa h0 args s) (hH : mm_St D mm_cl (mm_rho h0 sa) cA h0 s w H locs cells) (hrs : real.size = c.maxLocals) {ix : Nat} (hd : decode (mm_bytes M) pc = .ok (.invokestatic ix, 3)) (hl : Cond.methodLink (mm_own (mm_cn M)) ix arraycopyName ∈ lw_tbl) (ha : mm_aCpy pc ls st w = some (.inl (pc', ls', st', w')))
    (hfr : 1 ≤ R.frames) (hlo : 100 ≤ R.locals)
    (k : ∀ H1 locs1, pc' = pc + 3 → ls' = ls → w'.length = w.length → mm_sl w' = mm_sl w → mm_St D mm_cl (mm_rho h0 sa) cA h0 s w' H1 locs1 cells → W p l e R s m args below meth c H1 locs1 cells slots Q (F0 m (pc + 3) real (st'.map (mm_rv (mm_rho h0 sa))))) : W p l e R s m args below meth c H locs cells slots Q (F0 m pc real (st.map (mm_rv (mm_rho h0 sa)))) := by
  obtain ⟨hM, hx, hb, hml, ho, hr, hlk, hnm, htb, htr⟩ := hF
  obtain ⟨-, -, -, -, -, -, -, c1, c2, c3, -⟩ := mm_lib_ok
  unfold mm_aCpy at ha
  split at ha
  · rename_i n dp b sp a r
    show W p l e R s m args below meth c H locs cells slots Q (F0 m pc real (.int n :: .int dp :: .ref (mm_rho h0 sa b) :: .int sp :: .ref (mm_rho h0 sa a) :: r.map (mm_rv (mm_rho h0 sa))))
    split at ha
    · rename_i ty n0 f ty' n1 g har hbr
      split at ha
      · rename_i hc
        cases ha
        obtain ⟨rfl, h1, h2, h3, h4, h5, h6, h7, h8⟩ := hc
        obtain ⟨ha1, ha2⟩ := mm_ar_ok har
        obtain ⟨hb1, hb2⟩ := mm_ar_ok hbr
        rw [mm_rho_lt ha1, mm_rho_lt hb1]
        obtain ⟨t0, ht0⟩ := mm_ty (D := D) (cl := mm_cl) hC.2.1 (h1.elim (fun h => Or.inl h) (fun h => Or.inr (Or.inl h)))
        have hkw : b < w.length := (List.getElem?_eq_some_iff.mp hb2).1
        have hprim : refKind ty = false := by rcases h1 with rfl | rfl <;> rfl
        refine va_copyi hx hb hrs.symm ho (hC.1 _ hl) (hC.1 _ c1) (hC.1 _ c2) (hC.1 _ c3) hC.2.1 hH.1.1 mm_ws_D hH.2.1 a b t0 t0 (mm_ws_get ha2) (mm_ws_get hb2) ht0 ht0 hprim h2 h3 h4 h5 h6 ?_ hfr ?_ hd (fun H1 locs1 g1 _ g3 => mm_stored (E := .inl (ty, n1, .inl (va_cpy f g sp.toNatClampNeg dp.toNatClampNeg n.toNatClampNeg))) hH hkw g1 g3 (fun hS => k H1 locs1 rfl rfl List.length_set (mm_sl_set _ _ _ _ hb2 rfl) hS))
        · intro i hi
          rcases h7 with rfl | h7
          · rfl
          · exact h7 i hi
        · rw [mm_catsum]
          have : nativeFrameWords "java/lang/System" "arraycopy" 5 + 11 ≤ 92 := by decide
          omega
      · cases ha
    · cases ha
  · cases ha
theorem mm_goStc (hF : mm_Fx M p e s m meth c) (hC : mm_Cx D cA Z sa h0 args s) (hH : mm_St D mm_cl (mm_rho h0 sa) cA h0 s w H locs cells) (hrs : real.size = c.maxLocals) {ix : Nat} (hd : decode (mm_bytes M) pc = .ok (.invokestatic ix, 3)) (ha : mm_aStc (mm_cn M) ix pc ls st w = some (.inl (pc', ls', st', w')))
    (hcR : cells ≤ R.cells) (hsR : slots ≤ R.slots) (hfr : 1 ≤ R.frames) (hlo : 100 ≤ R.locals)
    (k : ∀ H1 locs1, pc' = pc + 3 → ls' = ls → w'.length = w.length → mm_sl w' = mm_sl w → mm_St D mm_cl (mm_rho h0 sa) cA h0 s w' H1 locs1 cells → W p l e R s m args below meth c H1 locs1 cells slots Q (F0 m (pc + 3) real (st'.map (mm_rv (mm_rho h0 sa))))) : W p l e R s m args below meth c H locs cells slots Q (F0 m pc real (st.map (mm_rv (mm_rho h0 sa)))) := by
  have hF' := hF
  obtain ⟨hM, hx, hb, hml, ho, hr, hlk, hnm, htb, htr⟩ := hF
  have hcn := (mm_ms_ok M hM).2.1
  obtain ⟨b1, b2, b3, b4, b5, b6, b7, -⟩ := mm_lib_ok
  unfold mm_aStc at ha
  split at ha
  · rename_i kd n xi tg hq
    have hmem := mm_lk_mem _ _ _ hq
    have hne : ∃ t, t ∈ tg := by
      have h := mm_ipt _ hcn _ hmem
      cases tg with
      | nil => exact absurd rfl h
      | cons t _ => exact ⟨t, List.mem_cons_self⟩
    obtain ⟨t, ht⟩ := hne
    split at ha
    · split at ha
      · unfold mm_goS at ha
        split at ha
        · cases ha
        · cases ha
      · cases ha
    · split at ha
      · rename_i hk10
        subst hk10
        split at ha
        · rename_i y x r
          split at ha
          · rename_i hs
            cases ha
            exact va_mmax hx hb hrs.symm ho (hC.1 _ (List.mem_of_getElem? (mm_ip10 _ hcn _ hmem rfl t ht))) (hC.1 _ b1) (hC.1 _ b4) (hC.1 _ b5) hfr (by rw [mm_catsum]; omega) hcR hsR hd (k H locs rfl rfl rfl rfl hH)
          · cases ha
        · cases ha
      · split at ha
        · rename_i hk11
          subst hk11
          split at ha
          · rename_i y x r
            split at ha
            · rename_i hs
              cases ha
              exact va_mmin hx hb hrs.symm ho (hC.1 _ (List.mem_of_getElem? (mm_ip11 _ hcn _ hmem rfl t ht))) (hC.1 _ b2) (hC.1 _ b4) (hC.1 _ b6) hfr (by rw [mm_catsum]; omega) hcR hsR hd (k H locs rfl rfl rfl rfl hH)
            · cases ha
          · cases ha
        · split at ha
          · rename_i hk12
            subst hk12
            split at ha
            · rename_i x r
              split at ha
              · rename_i hs
                cases ha
                exact va_mabs hx hb hrs.symm ho (hC.1 _ (List.mem_of_getElem? (mm_ip12 _ hcn _ hmem rfl t ht))) (hC.1 _ b3) (hC.1 _ b4) (hC.1 _ b7) hfr (by rw [mm_catsum]; omega) hcR hsR hd (k H locs rfl rfl rfl rfl hH)
              · cases ha
            · cases ha
          · split at ha
            · rename_i hk13
              subst hk13
              exact mm_goCpy hF' hC hH hrs hd (List.mem_of_getElem? (mm_ip13 _ hcn _ hmem rfl t ht)) ha hfr hlo k
            · cases ha
  · cases ha
theorem mm_goSpc (hF : mm_Fx M p e s m meth c) (hC : mm_Cx D cA Z sa h0 args s) (hrs : real.size = c.maxLocals) {ix : Nat} (hd : decode (mm_bytes M) pc = .ok (.invokespecial ix, 3)) (ha : mm_aSpc (mm_cn M) ix pc ls st w = some (.inl (pc', ls', st', w')))
    (hfr : 1 ≤ R.frames) (hlo : 100 ≤ R.locals)
    (k : pc' = pc + 3 → ls' = ls → w' = w → W p l e R s m args below meth c H locs cells slots Q (F0 m (pc + 3) real (st'.map (mm_rv (mm_rho h0 sa))))) : W p l e R s m args below meth c H locs cells slots Q (F0 m pc real (st.map (mm_rv (mm_rho h0 sa)))) := by
  obtain ⟨hM, hx, hb, hml, ho, hr, hlk, hnm, htb, htr⟩ := hF
  have hcn := (mm_ms_ok M hM).2.1
  obtain ⟨-, -, -, -, -, -, -, -, -, -, c4, c5⟩ := mm_lib_ok
  unfold mm_aSpc at ha
  split at ha
  · rename_i kd n xi tg hq
    have hmem := mm_lk_mem _ _ _ hq
    have hne : ∃ t, t ∈ tg := by
      have h := mm_ipt _ hcn _ hmem
      cases tg with
      | nil => exact absurd rfl h
      | cons t _ => exact ⟨t, List.mem_cons_self⟩
    obtain ⟨t, ht⟩ := hne
    split at ha
    · split at ha
      · split at ha
        · unfold mm_goV at ha
          split at ha
          · cases ha
          · cases ha
        · cases ha
      · split at ha
        · rename_i hk14
          subst hk14
          split at ha
          · rename_i a r
            split at ha
            · rename_i hs
              cases ha
              exact W.objInit hx hb ho (hC.1 _ (List.mem_of_getElem? (mm_ip14 _ hcn _ hmem rfl t ht))) (hC.1 _ c4) (hC.1 _ c5) rfl hrs rfl hd hfr (by rw [mm_catsum]; show 2 * 0 + _ + 12 ≤ _; omega) (k rfl rfl rfl)
            · cases ha
          · cases ha
        · cases ha
    · cases ha
  · cases ha
end MG2
