/-! one step on; the end of a method -/
section MF
variable {p : Program} {l : Launch} {e : Env} {R : Room} {s : State} {m : MethodId} {args : Array Value} {below : List Frame} {meth : Method} {c : Code} {H : Heap} {locs : List Loc} {cells slots : Nat} {Q : State → Prop}
variable {D : va_G} {cA : FieldType → ClassId} {Z : Nat → Option (Nat × (Nat → Int32))} {sa : Nat → Nat} {h0 M pc pc' : Nat} {w w' : mm_W} {ls ls' : List (Option Value)} {st st' : List Value} {real : Array Slot}
set_option maxHeartbeats 1000000 in
theorem mm_go (hF : mm_Fx M p e s m meth c) (hC : mm_Cx D cA Z sa h0 args s) (hH : mm_St D mm_cl (mm_rho h0 sa) cA h0 s w H locs cells) (hL : mm_Lr (mm_rho h0 sa) (mm_mL M) ls real) (ha : mm_act Z M (pc, ls, st, w) = some (.inl (pc', ls', st', w')))
    (hcR : cells + (w'.length - w.length) ≤ R.cells) (hsR : slots + (mm_sl w' - mm_sl w) ≤ R.slots) (hfr : 1 ≤ R.frames) (hlo : 100 ≤ R.locals)
    (k : ∀ H1 locs1 real1, w.length ≤ w'.length → mm_sl w ≤ mm_sl w' → mm_St D mm_cl (mm_rho h0 sa) cA h0 s w' H1 locs1 (cells + (w'.length - w.length)) → mm_Lr (mm_rho h0 sa) (mm_mL M) ls' real1 → W p l e R s m args below meth c H1 locs1 (cells + (w'.length - w.length)) (slots + (mm_sl w' - mm_sl w)) Q (F0 m pc' real1 (st'.map (mm_rv (mm_rho h0 sa))))) : W p l e R s m args below meth c H locs cells slots Q (F0 m pc real (st.map (mm_rv (mm_rho h0 sa)))) := by
  have hM := hF.1
  have hrs : real.size = c.maxLocals := hL.2.1.trans hF.2.2.2.1.symm
  have keep : ∀ q, pc' = q → ls' = ls → w' = w → W p l e R s m args below meth c H locs cells slots Q (F0 m q real (st'.map (mm_rv (mm_rho h0 sa)))) := by
    intro q hp hl hw
    subst hp; subst hl; subst hw
    have := k H locs real (Nat.le_refl _) (Nat.le_refl _) (by simpa using hH) hL
    simpa using this
  have put : ∀ q H1 locs1, pc' = q → ls' = ls → w'.length = w.length → mm_sl w' = mm_sl w → mm_St D mm_cl (mm_rho h0 sa) cA h0 s w' H1 locs1 cells → W p l e R s m args below meth c H1 locs1 cells slots Q (F0 m q real (st'.map (mm_rv (mm_rho h0 sa)))) := by
    intro q H1 locs1 hp hl he1 he2 hS
    subst hp; subst hl
    have a1 : cells + (w'.length - w.length) = cells := by omega
    have a2 : slots + (mm_sl w' - mm_sl w) = slots := by omega
    rw [a1, a2] at k
    exact k H1 locs1 real (by omega) (by omega) hS hL
  have made : ∀ q H1, pc' = q → ls' = ls → w.length ≤ w'.length → mm_sl w ≤ mm_sl w' → mm_St D mm_cl (mm_rho h0 sa) cA h0 s w' H1 locs (cells + (w'.length - w.length)) → W p l e R s m args below meth c H1 locs (cells + (w'.length - w.length)) (slots + (mm_sl w' - mm_sl w)) Q (F0 m q real (st'.map (mm_rv (mm_rho h0 sa)))) := by
    intro q H1 hp hl h1 h2 hS
    subst hp; subst hl
    exact k H1 locs real h1 h2 hS hL
  unfold mm_act at ha
  dsimp only at ha
  split at ha
  · rename_i i len hcode
    obtain ⟨hd, hlen⟩ := mm_dec hM hcode
    dsimp only at hd hlen
    split at ha
    · cases hlen rfl; exact mm_goGet hF hC hH hd ha (keep _)
    · cases hlen rfl; exact mm_goPut hF hC hH hd ha (put _)
    · cases hlen rfl; exact mm_goSta hF hC hH hd ha (keep _)
    · cases hlen rfl; exact mm_goLdc hF hC hd ha (keep _)
    · cases hlen rfl; exact mm_goIld hF hC hH hd ha (keep _)
    · cases hlen rfl; exact mm_goBld hF hC hH hd ha (keep _)
    · cases hlen rfl; exact mm_goLld hF hC hH hd ha (keep _)
    · cases hlen rfl; exact mm_goIst hF hC hH hd ha (put _)
    · cases hlen rfl; exact mm_goBst hF hC hH hd ha (put _)
    · cases hlen rfl; exact mm_goLst hF hC hH hd ha (put _)
    · cases hlen rfl; exact mm_goLen hF hC hH hd ha (keep _)
    · cases hlen rfl; exact mm_goNwa hF hC hH hd ha hcR hsR (made _)
    · cases hlen rfl; exact mm_goNew hF hC hH hd ha hcR hsR (made _)
    · cases hlen rfl; exact mm_goStc hF hC hH hrs hd ha (by omega) (by omega) hfr hlo (put _)
    · cases hlen rfl; exact mm_goSpc hF hC hrs hd ha hfr hlo (keep _)
    · exfalso
      unfold mm_aVrt at ha
      split at ha
      · split at ha
        · split at ha
          · split at ha
            · split at ha
              · unfold mm_goV at ha
                split at ha <;> cases ha
              · cases ha
            · cases ha
          · cases ha
        · cases ha
      · cases ha
    · exfalso
      split at ha
      · split at ha <;> cases ha
      · cases ha
    · exfalso
      split at ha
      · split at ha <;> cases ha
      · cases ha
    · exfalso
      split at ha
      · split at ha <;> cases ha
      · cases ha
    · split at ha
      · rename_i q hq
        cases ha
        refine mm_pure_ok hF.2.1 hF.2.2.1 hd hlen hq hL (fun real1 h1 => ?_)
        have := k H locs real1 (Nat.le_refl _) (Nat.le_refl _) (by simpa using hH) h1
        simpa using this
      · cases ha
  · cases ha
set_option maxHeartbeats 1000000 in
theorem mm_fin {r : mm_Rs} (hF : mm_Fx M p e s m meth c) (hC : mm_Cx D cA Z sa h0 args s) (hH : mm_St D mm_cl (mm_rho h0 sa) cA h0 s w H locs cells) (hL : mm_Lr (mm_rho h0 sa) (mm_mL M) ls real) (ha : mm_act Z M (pc, ls, st, w) = some (.inr (.inl (r, w'))))
    (hcR : cells + (w'.length - w.length) ≤ R.cells) (hsR : slots + (mm_sl w' - mm_sl w) ≤ R.slots) (hfr : ∀ x, r = .inr x → 6 ≤ R.frames) (hlo : 100 ≤ R.locals) :
    w.length ≤ w'.length ∧ mm_sl w ≤ mm_sl w' ∧ W p l e R s m args below meth c H locs cells slots (mx_Q below (mm_Qc D cA sa h0 r w') args s (cells + (w'.length - w.length)) (slots + (mm_sl w' - mm_sl w)) (mm_A h0)) (F0 m pc real (st.map (mm_rv (mm_rho h0 sa)))) := by
  have hM := hF.1
  have hcn := (mm_ms_ok M hM).2.1
  obtain ⟨-, hx, hb, hml, ho, hr, hlk, hnm, htb, htr⟩ := hF
  have hrs : real.size = c.maxLocals := hL.2.1.trans hml.symm
  unfold mm_act at ha
  dsimp only at ha
  split at ha
  · rename_i i len hcode
    obtain ⟨hd, hlen⟩ := mm_dec hM hcode
    dsimp only at hd hlen
    split at ha
    · exfalso; unfold mm_aGet at ha; repeat' split at ha
      all_goals cases ha
    · exfalso; unfold mm_aPut at ha; repeat' split at ha
      all_goals cases ha
    · exfalso; unfold mm_aSta at ha; repeat' split at ha
      all_goals cases ha
    · exfalso; unfold mm_aLdc at ha; repeat' split at ha
      all_goals cases ha
    · exfalso; unfold mm_aIld at ha; repeat' split at ha
      all_goals cases ha
    · exfalso; unfold mm_aBld at ha; repeat' split at ha
      all_goals cases ha
    · exfalso; unfold mm_aLld at ha; repeat' split at ha
      all_goals cases ha
    · exfalso; unfold mm_aIst at ha; repeat' split at ha
      all_goals cases ha
    · exfalso; unfold mm_aBst at ha; repeat' split at ha
      all_goals cases ha
    · exfalso; unfold mm_aLst at ha; repeat' split at ha
      all_goals cases ha
    · exfalso; unfold mm_aLen at ha; repeat' split at ha
      all_goals cases ha
    · exfalso; unfold mm_aNwa at ha; repeat' split at ha
      all_goals cases ha
    · rename_i ix
      cases hlen rfl
      unfold mm_aNew at ha
      split at ha
      · rename_i q hq
        obtain ⟨h1, h2⟩ := mm_np_ok _ hcn _ (mm_lk_mem _ _ _ hq)
        split at ha
        · split at ha <;> cases ha
        · rename_i hq11
          split at ha
          · rename_i hc
            cases ha
            refine ⟨by simp, by rw [mm_sl_push]; omega, ?_⟩
            have e1 : (w ++ [Sum.inr (q.1, [])]).length - w.length = 1 := by simp
            have e2 : mm_sl (w ++ [Sum.inr (q.1, [])]) - mm_sl w = 6 := by rw [mm_sl_push]; show _ + (if q.1 < 11 then mm_N q.1 else 6) - _ = _; rw [if_neg hq11]; omega
            rw [e1] at hcR ⊢
            rw [e2] at hsR ⊢
            exact mm_throw ⟨hM, hx, hb, hml, ho, hr, hlk, hnm, htb, htr⟩ hC hH hL hd (List.mem_of_getElem? h2) h1 hc hcR hsR (hfr _ rfl) hlo
          · cases ha
      · cases ha
    · exfalso; unfold mm_aStc mm_goS mm_aCpy at ha; repeat' split at ha
      all_goals cases ha
    · exfalso; unfold mm_aSpc mm_goV at ha; repeat' split at ha
      all_goals cases ha
    · exfalso; unfold mm_aVrt mm_goV at ha; repeat' split at ha
      all_goals cases ha
    · cases hlen rfl
      split at ha
      · rename_i v
        split at ha
        · rename_i hv
          cases ha
          refine ⟨Nat.le_refl _, Nat.le_refl _, ?_⟩
          rw [Nat.sub_self, Nat.sub_self]
          refine mx_mono (fun t h => mx_ofMQ t h) ?_
          rcases hv with hv | ⟨hv, h01⟩
          · exact W.iret hx hb (hr.trans hv) (fun t ht hW => ⟨rfl, by rw [ht]; exact hH.1, by rw [ht]; exact mm_old_kept hC hH⟩) hH.2.1.2.2 hd hlk
          · exact W.zret hx hb (hr.trans hv) (by rcases h01 with rfl | rfl <;> decide) (fun t ht hW => ⟨rfl, by rw [ht]; exact hH.1, by rw [ht]; exact mm_old_kept hC hH⟩) hH.2.1.2.2 hd hlk
        · cases ha
      · cases ha
    · cases hlen rfl
      split at ha
      · rename_i v
        split at ha
        · rename_i hv
          cases ha
          refine ⟨Nat.le_refl _, Nat.le_refl _, ?_⟩
          rw [Nat.sub_self, Nat.sub_self]
          refine mx_mono (fun t h => mx_ofMQ t h) ?_
          exact W.aret hx hb (hr.trans hv) (Or.inr ⟨_, rfl⟩) (Or.inr ⟨_, rfl⟩) (fun t ht hW => ⟨rfl, by rw [ht]; exact hH.1, by rw [ht]; exact mm_old_kept hC hH⟩) hH.2.1.2.2 hd hlk
        · cases ha
      · cases ha
    · cases hlen rfl
      split at ha
      · split at ha
        · rename_i hv
          cases ha
          refine ⟨Nat.le_refl _, Nat.le_refl _, ?_⟩
          rw [Nat.sub_self, Nat.sub_self]
          refine mx_mono (fun t h => mx_ofMQ t h) ?_
          exact W.vret hx hb (hr.trans hv) (fun t ht hW => ⟨rfl, by rw [ht]; exact hH.1, by rw [ht]; exact mm_old_kept hC hH⟩) hH.2.1.2.2 hd hlk
        · cases ha
      · cases ha
    · exfalso; split at ha <;> cases ha
  · cases ha
end MF
