/-! a run of the small machine is a run of the machine -/
abbrev mm_rm (d mc ms : Nat) : Room := { frames := d + 3, cells := mc, slots := ms, locals := 40 * d + 100 }
def mm_Pc (D : va_G) (cA : FieldType → ClassId) (Z : Nat → Option (Nat × (Nat → Int32))) (sa : Nat → Nat) (h0 : Nat) (as : List Value) (w : mm_W) : Array Value → State → Prop := fun a U =>
  a = (as.map (mm_rv (mm_rho h0 sa))).toArray ∧ mm_Hp D mm_cl (mm_rho h0 sa) cA h0 w U.heap ∧ va_K D mm_cl (mm_tys cA) U ∧ mm_Olds Z sa h0 U U.heap ∧ h0 ≤ U.heap.size ∧ mm_Ncs U
def mm_Pn (l : Launch) (D : va_G) (cA : FieldType → ClassId) (Z : Nat → Option (Nat × (Nat → Int32))) (sa : Nat → Nat) (h0 n : Nat) : Prop :=
  ∀ (d M pc : Nat) (ls : List (Option Value)) (st : List Value) (w : mm_W) (r : mm_Rs) (w' : mm_W), mm_run Z n d M (pc, ls, st, w) = some (r, w') → w.length ≤ w'.length ∧ mm_sl w ≤ mm_sl w' ∧
    ∀ (p : Program) (e : Env) (R : Room) (s : State) (m : MethodId) (args : Array Value) (below : List Frame) (meth : Method) (c : Code) (H : Heap) (locs : List Loc) (cells slots : Nat) (real : Array Slot),
      mm_Fx M p e s m meth c → mm_Cx D cA Z sa h0 args s → mm_St D mm_cl (mm_rho h0 sa) cA h0 s w H locs cells → mm_Lr (mm_rho h0 sa) (mm_mL M) ls real → d + 3 ≤ R.frames → 40 * d + 100 ≤ R.locals →
      cells + (w'.length - w.length) ≤ R.cells → slots + (mm_sl w' - mm_sl w) ≤ R.slots →
      W p l e R s m args below meth c H locs cells slots (mx_Q below (mm_Qc D cA sa h0 r w') args s (cells + (w'.length - w.length)) (slots + (mm_sl w' - mm_sl w)) (mm_A h0)) (F0 m pc real (st.map (mm_rv (mm_rho h0 sa))))
theorem mm_args1 : ∀ (vs : List Value) (k : Nat), (∀ v ∈ vs, v.category = 1) → ∀ (i : Nat) (v : Value), vs[i]? = some v → (k + i, v) ∈ lv_args k vs
  | [], _, _, i, v, h => by cases i <;> cases h
  | u :: vs, k, hc, 0, v, h => by
    cases h
    exact List.mem_cons_self
  | u :: vs, k, hc, i + 1, v, h => by
    have h1 : ¬ u.category = 2 := by rw [hc u List.mem_cons_self]; decide
    have h2 := mm_args1 vs (k + 1) (fun x hx => hc x (List.mem_cons_of_mem _ hx)) i v h
    unfold lv_args
    rw [if_neg h1]
    refine List.mem_cons_of_mem _ ?_
    rw [show k + (i + 1) = k + 1 + i by omega]
    exact h2
theorem mm_sl1 : ∀ vs : List Value, (∀ v ∈ vs, v.category = 1) → (lg_sl vs).length = vs.length
  | [], _ => rfl
  | u :: vs, hc => by
    have h1 : ¬ u.category = 2 := by rw [hc u List.mem_cons_self]; decide
    have h2 := mm_sl1 vs (fun x hx => hc x (List.mem_cons_of_mem _ hx))
    unfold lg_sl at h2 ⊢
    rw [List.flatMap_cons, if_neg h1, List.length_append, h2]
    simp [Nat.add_comm]
theorem mm_entry {ρ : Nat → Nat} {T : Nat} {as : List Value} (hn : as.length ≤ mm_mL T) (hc : mm_cat1 as = true) : mm_Lr ρ (mm_mL T) (mm_ls0 T as) ((lg_sl (as.map (mm_rv ρ)) ++ List.replicate (mm_mL T - (lg_sl (as.map (mm_rv ρ))).length) Slot.unset).toArray) := by
  have hcat : ∀ v ∈ as, v.category = 1 := fun v hv => by simpa using List.all_eq_true.mp hc v hv
  have hcat' : ∀ v ∈ as.map (mm_rv ρ), v.category = 1 := by
    intro v hv
    obtain ⟨u, hu, rfl⟩ := List.mem_map.mp hv
    rw [mm_rv_cat]; exact hcat u hu
  have hl := mm_sl1 _ hcat'
  rw [List.length_map] at hl
  have hE := lv_entry (as.map (mm_rv ρ)) (n := mm_mL T) (by rw [hl]; exact hn)
  refine ⟨by simp [mm_ls0]; omega, hE.1, hE.2.1, fun i v hi => ?_⟩
  have hi' : as[i]? = some v := by
    unfold mm_ls0 at hi
    by_cases hlt : i < as.length
    · rw [List.getElem?_append_left (by rw [List.length_map]; exact hlt), List.getElem?_map] at hi
      cases h9 : as[i]? with
      | none => rw [h9] at hi; cases hi
      | some u => rw [h9] at hi; cases hi; rfl
    · exfalso
      rw [List.getElem?_append_right (by rw [List.length_map]; omega), List.getElem?_replicate] at hi
      split at hi <;> cases hi
  refine ⟨hcat v (List.mem_of_getElem? hi'), hE.2.2 (i, mm_rv ρ v) ?_⟩
  have h1 := mm_args1 (as.map (mm_rv ρ)) 0 hcat' i (mm_rv ρ v) (by rw [List.getElem?_map, hi']; rfl)
  rw [Nat.zero_add] at h1
  exact h1
section MS
variable {l : Launch} {D : va_G} {cA : FieldType → ClassId} {Z : Nat → Option (Nat × (Nat → Int32))} {sa : Nat → Nat} {h0 : Nat}
set_option maxHeartbeats 1000000 in
theorem mm_met {n : Nat} (hP : mm_Pn l D cA Z sa h0 n) (htr : ∀ e : Env, l.admits e → e.platform.stackTraces = false) {d T : Nat} {as : List Value} {w w' : mm_W} {r : mm_Rs} (hT : T < 201) (hT0 : 0 < T) (hn : as.length ≤ mm_mL T) (hc : mm_cat1 as = true) (hx : mm_run Z n d T (0, mm_ls0 T as, [], w) = some (r, w')) :
    MetX l (mm_y T) mm_tb (mm_rm d (w'.length - w.length) (mm_sl w' - mm_sl w)) (mm_Pc D cA Z sa h0 as w) (mm_Qc D cA sa h0 r w') (w'.length - w.length) (mm_sl w' - mm_sl w) (mm_A h0) := by
  have htb : ∀ w ∈ lw_tbl, mm_nls w = true → w ∈ mm_tb := fun w h1 h2 => List.mem_filter.mpr ⟨h1, h2⟩
  refine MetX_ofW (cc := mm_bytes T) (maxL := mm_mL T) (ret := mm_rt T) (hh := mm_hh T) (mm_ms_ok T hT).2.2.1 ?_ ?_
  · intro args s h
    have hs := atoms_spec (ws := mm_tb) h
    rcases mm_cws T hT0 hT with ⟨h1, h2⟩ | h2
    · rw [h1]; exact mx_code (hs _ (htb _ h2 rfl))
    · exact mx_codeW (hs _ (htb _ h2 rfl))
  · intro p e s m args below meth c s₁ B hml hhh hPc
    obtain ⟨ha, hHp, hK, hO, hsz, hN⟩ := hPc
    subst ha
    have hs := atoms_spec (ws := mm_tb) B.pre
    have hts : ∀ w ∈ lw_tbl, w.before (as.map (mm_rv (mm_rho h0 sa))).toArray s = true := by
      intro w hw
      rcases mm_lsk w hw with h1 | ⟨q, hq, rfl⟩
      · exact hs w (htb w hw h1)
      · exact mm_Ls_use (hO.2.2.2.2 q hq)
    have hC : mm_Cx D cA Z sa h0 (as.map (mm_rv (mm_rho h0 sa))).toArray s := ⟨hts, hK, hO, hsz, hN⟩
    have hF : mm_Fx T p e s m meth c := ⟨hT, B.exec, B.bytes, hml, by rw [← (mm_ms_ok T hT).1]; exact findClass_of_methodNamed B.named, B.returns, B.notSynchronized, (name_of_methodNamed B.named B.method).1, hhh, htr e B.admits, by rw [B.admits.platform]⟩
    rw [lg_entry_eq]
    have hSt : mm_St D mm_cl (mm_rho h0 sa) cA h0 s w s.heap [] 0 := ⟨hHp, va_S.rf, rfl, hsz⟩
    have := (hP d T 0 _ [] w r w' hx).2.2 p e (mm_rm d (w'.length - w.length) (mm_sl w' - mm_sl w)) s m (as.map (mm_rv (mm_rho h0 sa))).toArray below meth c s.heap [] 0 0 _ hF hC hSt (mm_entry hn hc) (Nat.le_refl _) (Nat.le_refl _) (by rw [Nat.zero_add]; exact Nat.le_refl _) (by rw [Nat.zero_add]; exact Nat.le_refl _)
    rw [Nat.zero_add, Nat.zero_add] at this
    exact this
theorem mm_xca : ∀ x ∈ [11, 12, 13], Cond.castable (mm_C x) (mm_C x) ∈ lw_tbl := by decide +kernel
theorem mm_after {s : State} {args : Array Value} {w w1 : mm_W} {H : Heap} {locs L : List Loc} {cells : Nat} {t u : State} (hC : mm_Cx D cA Z sa h0 args s) (hH : mm_St D mm_cl (mm_rho h0 sa) cA h0 s w H locs cells) (hu : u.heap = H) (hHp : mm_Hp D mm_cl (mm_rho h0 sa) cA h0 w1 t.heap) (hk : ∀ q : Nat, q < h0 → t.heap[q]? = u.heap[q]?) (hL : ∀ q ∈ L, mm_A h0 q.base) (j1 : w.length ≤ w1.length) :
    mm_St D mm_cl (mm_rho h0 sa) cA h0 s w1 t.heap (locs ++ L) (cells + (w1.length - w.length)) := by
  have e1 := hH.1.2
  have e2 := hHp.2
  have e3 := hH.2.2.1
  refine ⟨hHp, ⟨by omega, fun q h1 h2 => ?_, fun q hq => ?_⟩, by omega, hH.2.2.2⟩
  · have h3 : q < h0 := Nat.lt_of_not_le h2
    rw [hk q h3, hu]
    exact mm_old_kept hC hH q h3
  · rcases List.mem_append.mp hq with h | h
    · exact hH.2.1.2.2 q h
    · exact hL q h
set_option maxHeartbeats 2000000 in
theorem mm_wc {p : Program} {e : Env} {R : Room} {s : State} {m : MethodId} {args : Array Value} {below : List Frame} {meth : Method} {c : Code} {H : Heap} {locs : List Loc} {cells slots : Nat} {Q : State → Prop} {real : Array Slot}
    {n d M T pc : Nat} {ls ls0 : List (Option Value)} {st rest : List Value} {w w1 : mm_W} {r1 : mm_Rs} (hP : mm_Pn l D cA Z sa h0 n) (htr : ∀ e : Env, l.admits e → e.platform.stackTraces = false) (hF : mm_Fx M p e s m meth c) (hC : mm_Cx D cA Z sa h0 args s) (hH : mm_St D mm_cl (mm_rho h0 sa) cA h0 s w H locs cells) (hL : mm_Lr (mm_rho h0 sa) (mm_mL M) ls real)
    (ha : mm_act Z M (pc, ls, st, w) = some (.inr (.inr (T, ls0, rest)))) (hc : mm_run Z n d T (0, ls0, [], w) = some (r1, w1)) (j1 : w.length ≤ w1.length) (hfr : d + 1 + 3 ≤ R.frames) (hlo : 40 * (d + 1) + 100 ≤ R.locals) (hcR : cells + (w1.length - w.length) ≤ R.cells) (hsR : slots + (mm_sl w1 - mm_sl w) ≤ R.slots)
    (kret : ∀ v, r1 = .inl v → ∀ H1 locs1, mm_St D mm_cl (mm_rho h0 sa) cA h0 s w1 H1 locs1 (cells + (w1.length - w.length)) → W p l e R s m args below meth c H1 locs1 (cells + (w1.length - w.length)) (slots + (mm_sl w1 - mm_sl w)) Q (F0 m (pc + 3) real ((v.toList ++ rest).map (mm_rv (mm_rho h0 sa)))))
    (kcat : ∀ x hp, r1 = .inr x → mm_hand M pc x = some hp → ∀ H1 locs1, mm_St D mm_cl (mm_rho h0 sa) cA h0 s w1 H1 locs1 (cells + (w1.length - w.length)) → W p l e R s m args below meth c H1 locs1 (cells + (w1.length - w.length)) (slots + (mm_sl w1 - mm_sl w)) Q (F0 m hp real ([Value.ref (w1.length - 1)].map (mm_rv (mm_rho h0 sa)))))
    (kthr : ∀ x, r1 = .inr x → mm_hand M pc x = none → ∀ (t' : State) (L : List Loc), mm_Qc D cA sa h0 (.inr x) w1 args s (.threw (h0 + (w1.length - 1))) t' → t'.status = .running → Ended t' below (.threw (h0 + (w1.length - 1))) → s.WarmedH t'.vm → s.sameButNew ({ t' with vm := s.vm } : State) L (cells + (w1.length - w.length)) (slots + (mm_sl w1 - mm_sl w)) → (∀ q ∈ L, mm_A h0 q.base) → Q t') :
    W p l e R s m args below meth c H locs cells slots Q (F0 m pc real (st.map (mm_rv (mm_rho h0 sa)))) := by
  obtain ⟨as, mk, ig, g1, g0, g2, g3, rfl, g5, g6, g7, hn, hstep⟩ := mm_inv (l := l) (R := R) (below := below) (slots := slots) (real := real) hF hC hH ha
  obtain ⟨hM, hx, hb, hml, ho, hr, hlk, hnm, htb, htr2⟩ := hF
  have hrs : real.size = c.maxLocals := hL.2.1.trans hml.symm
  have hmL := (mm_ms_ok T g1).2.2.2.2
  have nls : mm_nls (Cond.initialized (mm_y T).cls) = true := rfl
  refine mx_wcall (maxL := mm_mL T) (mm_met hP htr g1 g0 g2 g3 hc) hstep hn (mm_mx hC g1 g0) (fun w hw a' U hW => mm_warm hw hW (hC.1 _ (List.mem_filter.mp hw).1)) (fun a' U hW => mm_warm (List.mem_filter.mpr ⟨g7, nls⟩) hW (hC.1 _ g7)) hrs g6 (by rw [mm_catsum]; exact g5) (by show d + 3 + 1 ≤ R.frames; omega) (by show 8 + (mm_mL T + 11) + (40 * d + 100) ≤ R.locals; omega) hcR hsR ?_ ?_ ?_ hlk
  · intro U hU hW
    have e1 := hH.2.2.1
    have e2 := hH.2.2.2
    exact ⟨rfl, by rw [hU]; exact hH.1, va_K.moved hW.alike hC.2.1, by rw [hU]; exact mm_Olds_moved hW.alike (mm_Olds_kept hH.2.1.2.1 hC.2.2.1), by rw [hU]; omega, mm_Ncs_moved hW.alike hC.2.2.2.2⟩
  · intro u t v L hu hW hq hLf
    obtain ⟨h1, h2, h3⟩ := hq
    cases r1 with
    | inl v0 =>
      dsimp only at h1
      cases h1
      have hS := mm_after hC hH hu h2 h3 hLf j1
      have := kret v0 rfl t.heap (locs ++ L) hS
      rw [List.map_append] at this
      cases v0 <;> exact this
    | inr x => exact absurd h1.1 (by intro h; cases h)
  · intro u t x L hu hW hq hLf
    obtain ⟨h1, h2, h3⟩ := hq
    cases r1 with
    | inl v0 => exact absurd h1 (by intro h; cases h)
    | inr y =>
      obtain ⟨hx1, hy, hlast, hlen, hpos⟩ := h1
      cases hx1
      have hy14 : y < 14 := by simp at hy; omega
      obtain ⟨cell, k1, k2, k3⟩ := mm_cell hC h2.1 hlast hy14
      have hS := mm_after hC hH hu h2 h3 hLf j1
      have hfind : mx_find pc (mm_okx M y) c.exceptionTable.toList = mm_hand M pc y := by rw [mm_hd_eq, htb]; rfl
      have kst : ∀ k, cell.vm ≠ .statics k := by intro k; rw [k2]; intro h; cases h
      refine ⟨cell, mm_okx M y, k1, kst, Vm.classAt_of_findClass k3, ?_, ?_, ?_⟩
      · intro z hz hcov
        have hz' : (z.startPc, z.endPc, z.handlerPc, z.catchType) ∈ mm_hh M := by rw [← htb]; exact List.mem_map.mpr ⟨z, hz, rfl⟩
        obtain ⟨n0, y0, hy0, hlk0, hok⟩ := mm_hhok M hM _ hz'
        dsimp only at n0 hlk0 hok
        obtain ⟨cx, q1, q2⟩ := Cond.classLink_spec ho (hC.1 _ hlk0) e.platform htr2.2
        refine ⟨n0, cx, q2, ?_⟩
        rw [hok y hy]
        by_cases hyy : y = y0
        · subst hyy
          obtain ⟨c1, c2, d1, d2, d3⟩ := Cond.castable_spec (hC.1 _ (mm_xca y hy))
          cases k3.symm.trans d1
          cases q1.symm.trans d2
          rw [d3]; simp
        · obtain ⟨c1, c2, d1, d2, d3⟩ := hC.2.2.2.2 y hy y0 hy0 hyy
          cases k3.symm.trans d1
          cases q1.symm.trans d2
          rw [d3]; simp [hyy]
      · intro hpc hf
        rw [hfind] at hf
        have := kcat y hpc rfl hf t.heap (locs ++ L) hS
        have e3 : mm_rv (mm_rho h0 sa) (.ref (w1.length - 1)) = .ref (h0 + (w1.length - 1)) := by show Value.ref _ = _; rw [mm_rho_lt (by omega)]
        rw [List.map_cons, e3] at this
        exact this
      · intro hf t' ht' hrun hend hW' hsame
        rw [hfind] at hf
        refine kthr y rfl hf t' (locs ++ L) ⟨⟨rfl, hy, hlast, hlen, hpos⟩, by rw [ht']; exact h2, fun q hq => ?_⟩ hrun hend hW' hsame hS.2.1.2.2
        rw [ht', h3 q hq, hu]
        exact mm_old_kept hC hH q hq
set_option maxHeartbeats 2000000 in
theorem mm_sound (htr : ∀ e : Env, l.admits e → e.platform.stackTraces = false) : ∀ n, mm_Pn l D cA Z sa h0 n := by
  intro n
  induction n with
  | zero => intro d M pc ls st w r w' h; cases h
  | succ n ih =>
    intro d M pc ls st w r w' h
    have h : mm_ex (mm_act Z) mm_hand (n + 1) d M (pc, ls, st, w) = some (r, w') := h
    rcases ha : mm_act Z M (pc, ls, st, w) with _ | (⟨pc', ls', st', w1⟩ | (⟨r', w1⟩ | ⟨T, ls0, rest⟩))
    · rw [mm_ex] at h; simp only [ha] at h; cases h
    · rw [mm_ex] at h
      simp only [ha] at h
      obtain ⟨m1, m2⟩ := mm_mono ha
      obtain ⟨i1, i2, i3⟩ := ih d M pc' ls' st' w1 r w' h
      refine ⟨by omega, by omega, ?_⟩
      intro p e R s m args below meth c H locs cells slots real hF hC hH hL hfr hlo hcR hsR
      refine mm_go hF hC hH hL ha (by omega) (by omega) (by omega) (by omega) (fun H1 locs1 real1 _ _ hS hL1 => ?_)
      have := i3 p e R s m args below meth c H1 locs1 (cells + (w1.length - w.length)) (slots + (mm_sl w1 - mm_sl w)) real1 hF hC hS hL1 hfr hlo (by omega) (by omega)
      rw [show cells + (w1.length - w.length) + (w'.length - w1.length) = cells + (w'.length - w.length) by omega, show slots + (mm_sl w1 - mm_sl w) + (mm_sl w' - mm_sl w1) = slots + (mm_sl w' - mm_sl w) by omega] at this
      exact this
    · rw [mm_ex] at h
      simp only [ha] at h
      split at h
      case isFalse => cases h
      rename_i hok
      cases h
      obtain ⟨f1, f2⟩ := mm_fmono ha
      exact ⟨f1, f2, fun p e R s m args below meth c H locs cells slots real hF hC hH hL hfr hlo hcR hsR => (mm_fin (p := p) (l := l) (e := e) (R := R) (below := below) hF hC hH hL ha hcR hsR (fun x hx => by subst hx; have hk : 3 ≤ d := Nat.le_of_ble_eq_true hok; omega) (by omega)).2.2⟩
    · cases d with
      | zero => rw [mm_ex] at h; simp only [ha] at h; cases h
      | succ d =>
        rw [mm_ex] at h
        simp only [ha] at h
        rcases hc : mm_ex (mm_act Z) mm_hand n d T (0, ls0, [], w) with _ | ⟨v | x, w1⟩
        · rw [hc] at h; cases h
        · rw [hc] at h
          dsimp only at h
          obtain ⟨j1, j2, -⟩ := ih d T 0 ls0 [] w _ w1 hc
          obtain ⟨i1, i2, i3⟩ := ih (d + 1) M (pc + 3) ls (v.toList ++ rest) w1 r w' h
          refine ⟨by omega, by omega, ?_⟩
          intro p e R s m args below meth c H locs cells slots real hF hC hH hL hfr hlo hcR hsR
          refine mm_wc ih htr hF hC hH hL ha hc j1 (by omega) (by omega) (by omega) (by omega) ?_ (fun x hp h9 => by cases h9) (fun x h9 => by cases h9)
          intro v' hv' H1 locs1 hS
          cases hv'
          have := i3 p e R s m args below meth c H1 locs1 (cells + (w1.length - w.length)) (slots + (mm_sl w1 - mm_sl w)) real hF hC hS hL hfr hlo (by omega) (by omega)
          rw [show cells + (w1.length - w.length) + (w'.length - w1.length) = cells + (w'.length - w.length) by omega, show slots + (mm_sl w1 - mm_sl w) + (mm_sl w' - mm_sl w1) = slots + (mm_sl w' - mm_sl w) by omega] at this
          exact this
        · rw [hc] at h
          dsimp only at h
          obtain ⟨j1, j2, -⟩ := ih d T 0 ls0 [] w _ w1 hc
          rcases hh : mm_hand M pc x with _ | hp
          · simp only [hh] at h
            cases h
            refine ⟨j1, j2, ?_⟩
            intro p e R s m args below meth c H locs cells slots real hF hC hH hL hfr hlo hcR hsR
            refine mm_wc ih htr hF hC hH hL ha hc j1 (by omega) (by omega) (by omega) (by omega) (fun v h9 => by cases h9) (fun x' hp h9 h8 => ?_) (fun x' h9 h8 t' L hq hrun hend hW hsame hf => ?_)
            · cases h9; rw [hh] at h8; cases h8
            · cases h9
              exact ⟨_, hrun, hend, hq, L, ⟨hW, hsame⟩, hf⟩
          · simp only [hh] at h
            obtain ⟨i1, i2, i3⟩ := ih (d + 1) M hp ls [.ref (w1.length - 1)] w1 r w' h
            refine ⟨by omega, by omega, ?_⟩
            intro p e R s m args below meth c H locs cells slots real hF hC hH hL hfr hlo hcR hsR
            refine mm_wc ih htr hF hC hH hL ha hc j1 (by omega) (by omega) (by omega) (by omega) (fun v h9 => by cases h9) (fun x' hp' h9 h8 H1 locs1 hS => ?_) (fun x' h9 h8 => ?_)
            · cases h9
              rw [hh] at h8
              cases h8
              have := i3 p e R s m args below meth c H1 locs1 (cells + (w1.length - w.length)) (slots + (mm_sl w1 - mm_sl w)) real hF hC hS hL hfr hlo (by omega) (by omega)
              rw [show cells + (w1.length - w.length) + (w'.length - w1.length) = cells + (w'.length - w.length) by omega, show slots + (mm_sl w1 - mm_sl w) + (mm_sl w' - mm_sl w1) = slots + (mm_sl w' - mm_sl w) by omega] at this
              exact this
            · cases h9; rw [hh] at h8; cases h8
end MS
