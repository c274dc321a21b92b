/-! a step only adds cells -/
theorem mm_mono_set {w : mm_W} {a : Nat} {E F : mm_E} (h : w[a]? = some E) (he : mm_cs F = mm_cs E) : w.length ≤ (w.set a F).length ∧ mm_sl w ≤ mm_sl (w.set a F) := by
  rw [List.length_set, mm_sl_set w a E F h he]
  exact ⟨Nat.le_refl _, Nat.le_refl _⟩
theorem mm_mono_push {w : mm_W} {E : mm_E} : w.length ≤ (w ++ [E]).length ∧ mm_sl w ≤ mm_sl (w ++ [E]) := by
  rw [mm_sl_push]
  exact ⟨by simp, Nat.le_add_right _ _⟩
theorem mm_mono {Z : Nat → Option (Nat × (Nat → Int32))} {M pc pc' : Nat} {w w' : mm_W} {ls ls' : List (Option Value)} {st st' : List Value} (ha : mm_act Z M (pc, ls, st, w) = some (.inl (pc', ls', st', w'))) : w.length ≤ w'.length ∧ mm_sl w ≤ mm_sl w' := by
  have same : w' = w → w.length ≤ w'.length ∧ mm_sl w ≤ mm_sl w' := fun h => by rw [h]; exact ⟨Nat.le_refl _, Nat.le_refl _⟩
  unfold mm_act at ha
  dsimp only at ha
  split at ha
  · rename_i i len hcode
    split at ha
    · unfold mm_aGet at ha; repeat' split at ha
      all_goals first | (cases ha; done) | (cases ha; exact same rfl)
    · unfold mm_aPut at ha
      split at ha
      · split at ha
        · rename_i cj fs hobj
          split at ha
          · split at ha
            · cases ha; exact mm_mono_set (mm_obj_ok hobj).2 rfl
            · cases ha
          · cases ha
        · cases ha
      · cases ha
    · unfold mm_aSta at ha; repeat' split at ha
      all_goals first | (cases ha; done) | (cases ha; exact same rfl)
    · unfold mm_aLdc at ha; repeat' split at ha
      all_goals first | (cases ha; done) | (cases ha; exact same rfl)
    · unfold mm_aIld at ha; repeat' split at ha
      all_goals first | (cases ha; done) | (cases ha; exact same rfl)
    · unfold mm_aBld at ha; repeat' split at ha
      all_goals first | (cases ha; done) | (cases ha; exact same rfl)
    · unfold mm_aLld at ha; repeat' split at ha
      all_goals first | (cases ha; done) | (cases ha; exact same rfl)
    · unfold mm_aIst at ha
      split at ha
      · split at ha
        · rename_i n f har
          split at ha
          · cases ha
          · cases ha; exact mm_mono_set (mm_ar_ok har).2 rfl
        · cases ha
      · cases ha
    · unfold mm_aBst at ha
      split at ha
      · split at ha
        · rename_i n f har
          split at ha
          · cases ha
          · cases ha; exact mm_mono_set (mm_ar_ok har).2 rfl
        · cases ha
      · cases ha
    · unfold mm_aLst at ha
      split at ha
      · split at ha
        · rename_i n f har
          split at ha
          · cases ha
          · cases ha; exact mm_mono_set (mm_ar_ok har).2 rfl
        · cases ha
      · cases ha
    · unfold mm_aLen at ha; repeat' split at ha
      all_goals first | (cases ha; done) | (cases ha; exact same rfl)
    · unfold mm_aNwa at ha; repeat' split at ha
      all_goals first | (cases ha; done) | (cases ha; exact mm_mono_push)
    · unfold mm_aNew at ha; repeat' split at ha
      all_goals first | (cases ha; done) | (cases ha; exact mm_mono_push)
    · unfold mm_aStc at ha
      split at ha
      · split at ha
        · unfold mm_goS at ha; repeat' split at ha
          all_goals cases ha
        · split at ha
          · repeat' split at ha
            all_goals first | (cases ha; done) | (cases ha; exact same rfl)
          · split at ha
            · repeat' split at ha
              all_goals first | (cases ha; done) | (cases ha; exact same rfl)
            · split at ha
              · repeat' split at ha
                all_goals first | (cases ha; done) | (cases ha; exact same rfl)
              · split at ha
                · unfold mm_aCpy at ha
                  split at ha
                  · split at ha
                    · rename_i ty n0 f ty' n1 g har hbr
                      split at ha
                      · rename_i hc
                        cases ha
                        obtain ⟨rfl, -⟩ := hc
                        exact mm_mono_set (mm_ar_ok hbr).2 rfl
                      · cases ha
                    · cases ha
                  · cases ha
                · cases ha
      · cases ha
    · unfold mm_aSpc mm_goV at ha; repeat' split at ha
      all_goals first | (cases ha; done) | (cases ha; exact same rfl)
    · unfold mm_aVrt mm_goV at ha; repeat' split at ha
      all_goals cases ha
    · repeat' split at ha
      all_goals cases ha
    · repeat' split at ha
      all_goals cases ha
    · repeat' split at ha
      all_goals cases ha
    · split at ha
      · cases ha; exact same rfl
      · cases ha
  · cases ha
theorem mm_fmono {Z : Nat → Option (Nat × (Nat → Int32))} {M pc : Nat} {w w' : mm_W} {ls : List (Option Value)} {st : List Value} {r : mm_Rs} (ha : mm_act Z M (pc, ls, st, w) = some (.inr (.inl (r, w')))) : w.length ≤ w'.length ∧ mm_sl w ≤ mm_sl w' := by
  have same : w' = w → w.length ≤ w'.length ∧ mm_sl w ≤ mm_sl w' := fun h => by rw [h]; exact ⟨Nat.le_refl _, Nat.le_refl _⟩
  unfold mm_act at ha
  dsimp only at ha
  split at ha
  · rename_i i len hcode
    split at ha
    · exfalso; unfold mm_aGet at ha; repeat' split at ha
      all_goals cases ha
    · exfalso; unfold mm_aPut at ha; repeat' split at ha
      all_goals cases ha
    · exfalso; unfold mm_aSta at ha; repeat' split at ha
      all_goals cases ha
    · exfalso; unfold mm_aLdc at ha; repeat' split at ha
      all_goals cases ha
    · exfalso; unfold mm_aIld at ha; repeat' split at ha
      all_goals cases ha
    · exfalso; unfold mm_aBld at ha; repeat' split at ha
      all_goals cases ha
    · exfalso; unfold mm_aLld at ha; repeat' split at ha
      all_goals cases ha
    · exfalso; unfold mm_aIst at ha; repeat' split at ha
      all_goals cases ha
    · exfalso; unfold mm_aBst at ha; repeat' split at ha
      all_goals cases ha
    · exfalso; unfold mm_aLst at ha; repeat' split at ha
      all_goals cases ha
    · exfalso; unfold mm_aLen at ha; repeat' split at ha
      all_goals cases ha
    · exfalso; unfold mm_aNwa at ha; repeat' split at ha
      all_goals cases ha
    · unfold mm_aNew at ha; repeat' split at ha
      all_goals first | (cases ha; done) | (cases ha; exact mm_mono_push)
    · exfalso; unfold mm_aStc mm_goS mm_aCpy at ha; repeat' split at ha
      all_goals cases ha
    · exfalso; unfold mm_aSpc mm_goV at ha; repeat' split at ha
      all_goals cases ha
    · exfalso; unfold mm_aVrt mm_goV at ha; repeat' split at ha
      all_goals cases ha
    · repeat' split at ha
      all_goals first | (cases ha; done) | (cases ha; exact same rfl)
    · repeat' split at ha
      all_goals first | (cases ha; done) | (cases ha; exact same rfl)
    · repeat' split at ha
      all_goals first | (cases ha; done) | (cases ha; exact same rfl)
    · exfalso; split at ha <;> cases ha
  · cases ha
