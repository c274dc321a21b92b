/-! calls -/
theorem mm_hhok : ∀ M, M < 201 → ∀ h ∈ mm_hh M, h.2.2.2 ≠ 0 ∧ ∃ y ∈ [11, 12, 13], Cond.classLink (mm_own (mm_cn M)) h.2.2.2 (mm_C y) ∈ lw_tbl ∧ ∀ x ∈ [11, 12, 13], mm_okx M x h.2.2.2 = decide (x = y) := by decide +kernel
theorem mm_hd_eq {M pc x : Nat} : ∀ t : List ExceptionTableEntry, mx_find pc (mm_okx M x) t = mm_hd M pc x (t.map (fun h => (h.startPc, h.endPc, h.handlerPc, h.catchType)))
  | [] => rfl
  | z :: t => by
    simp only [mx_find, List.map_cons, mm_hd]
    rw [mm_hd_eq t]
    simp only [covers, Bool.and_eq_true, decide_eq_true_eq]
theorem mm_stS (f : Value → Value) (st : List Value) (n : Nat) : st.map f = ((st.take n).reverse.map f).reverse ++ (st.drop n).map f := by
  rw [List.map_reverse, List.reverse_reverse, ← List.map_append, List.take_append_drop]
theorem mm_stV (f : Value → Value) (st : List Value) (n : Nat) (v : Value) (h : st[n]? = some v) : st.map f = ((st.take n).reverse.map f).reverse ++ f v :: (st.drop (n + 1)).map f ∧ (st.take (n + 1)).reverse = v :: (st.take n).reverse := by
  obtain ⟨hn, hv⟩ := List.getElem?_eq_some_iff.mp h
  constructor
  · rw [List.map_reverse, List.reverse_reverse, ← List.map_cons, ← List.map_append]
    congr 1
    rw [← hv, List.getElem_cons_drop, List.take_append_drop]
  · rw [List.take_succ_eq_append_getElem hn, List.reverse_append, hv]
    rfl
section MC
variable {p : Program} {l : Launch} {e : Env} {R : Room} {s : State} {m : MethodId} {args : Array Value} {below : List Frame} {meth : Method} {c : Code} {H : Heap} {locs : List Loc} {cells slots : Nat} {Q : State → Prop}
variable {D : va_G} {cA : FieldType → ClassId} {Z : Nat → Option (Nat × (Nat → Int32))} {sa : Nat → Nat} {h0 M pc : Nat} {w : mm_W} {ls : List (Option Value)} {st : List Value} {real : Array Slot}
theorem mm_cell (hC : mm_Cx D cA Z sa h0 args s) (hP : va_P D mm_cl (mm_ws (mm_rho h0 sa) cA h0 w) H) {a cj : Nat} {fs : List Value} (ha : w[a]? = some (.inr (cj, fs))) (hcj : cj < 14) : ∃ cell : Cell, H[h0 + a]? = some cell ∧ cell.vm = .none ∧ s.vm.findClass (mm_C cj) = some cell.cls := by
  obtain ⟨r, h1, cell, q1, q2, q3, q4⟩ := hP a _ (mm_ws_get ha)
  refine ⟨cell, q1, q3, ?_⟩
  have hK := hC.2.1.1 cj _ (mm_cl_at cj hcj)
  rw [q2]
  exact hK.2.1
theorem mm_mx (hC : mm_Cx D cA Z sa h0 args s) {T : Nat} (hT : T < 201) (hT0 : 0 < T) : mx_Code (mm_y T) (mm_bytes T) (mm_mL T) (mm_rt T) (mm_hh T) s := by
  rcases mm_cws T hT0 hT with ⟨h1, h2⟩ | h2
  · rw [h1]; exact mx_code (hC.1 _ h2)
  · exact mx_codeW (hC.1 _ h2)
/-- where a call goes, and how the machine comes there -/
def mm_Inv (p : Program) (l : Launch) (e : Env) (R : Room) (s : State) (m : MethodId) (args : Array Value) (below : List Frame) (meth : Method) (c : Code) (H : Heap) (locs : List Loc) (cells slots : Nat) (ρ : Nat → Nat) (pc : Nat) (real : Array Slot) (st : List Value) (T : Nat) (ls0 : List (Option Value)) (rest : List Value) : Prop :=
  ∃ (as : List Value) (mk : MethodId) (ig : Instr), T < 201 ∧ 0 < T ∧ as.length ≤ mm_mL T ∧ mm_cat1 as = true ∧ ls0 = mm_ls0 T as ∧ (rest.map fun v => v.category).sum ≤ 8 ∧ decode c.code pc = .ok (ig, 3) ∧ Cond.initialized (mm_y T).cls ∈ lw_tbl ∧ s.methodNamed? (mm_y T) = some mk ∧
    mx_Step p l e R s m args below meth c H locs cells slots pc real (st.map (mm_rv ρ)) (rest.map (mm_rv ρ)) (as.map (mm_rv ρ)).toArray mk
theorem mm_nargs {y : MethodName} {n : Nat} (h : (parseMethodDescriptor y.desc).map (fun d => d.parameters.length) = some n) {as : List Value} (ha : as.length = n) : ∀ sig, parseMethodDescriptor y.desc = some sig → as.length = sig.parameters.length := by
  intro sig hs
  rw [hs] at h
  rw [ha]
  exact (Option.some.inj h).symm
set_option maxHeartbeats 1000000 in
theorem mm_inv (hF : mm_Fx M p e s m meth c) (hC : mm_Cx D cA Z sa h0 args s) (hH : mm_St D mm_cl (mm_rho h0 sa) cA h0 s w H locs cells) {T : Nat} {ls0 : List (Option Value)} {rest : List Value} (ha : mm_act Z M (pc, ls, st, w) = some (.inr (.inr (T, ls0, rest)))) :
    mm_Inv p l e R s m args below meth c H locs cells slots (mm_rho h0 sa) pc real st T ls0 rest := by
  have hM := hF.1
  have hcn := (mm_ms_ok M hM).2.1
  obtain ⟨-, hx, hb, hml, ho, hr, hlk, hnm, htb, htr⟩ := hF
  unfold mm_act at ha
  dsimp only at ha
  split at ha
  · rename_i i len hcode
    obtain ⟨hd, hlen⟩ := mm_dec hM hcode
    dsimp only at hd hlen
    split at ha
    · exfalso; unfold mm_aGet at ha; repeat' split at ha
      all_goals cases ha
    · exfalso; unfold mm_aPut at ha; repeat' split at ha
      all_goals cases ha
    · exfalso; unfold mm_aSta at ha; repeat' split at ha
      all_goals cases ha
    · exfalso; unfold mm_aLdc at ha; repeat' split at ha
      all_goals cases ha
    · exfalso; unfold mm_aIld at ha; repeat' split at ha
      all_goals cases ha
    · exfalso; unfold mm_aBld at ha; repeat' split at ha
      all_goals cases ha
    · exfalso; unfold mm_aLld at ha; repeat' split at ha
      all_goals cases ha
    · exfalso; unfold mm_aIst at ha; repeat' split at ha
      all_goals cases ha
    · exfalso; unfold mm_aBst at ha; repeat' split at ha
      all_goals cases ha
    · exfalso; unfold mm_aLst at ha; repeat' split at ha
      all_goals cases ha
    · exfalso; unfold mm_aLen at ha; repeat' split at ha
      all_goals cases ha
    · exfalso; unfold mm_aNwa at ha; repeat' split at ha
      all_goals cases ha
    · exfalso; unfold mm_aNew at ha; repeat' split at ha
      all_goals cases ha
    · rename_i ix
      cases hlen rfl
      unfold mm_aStc at ha
      split at ha
      · rename_i kd n xi tg hq
        have hmem := mm_lk_mem _ _ _ hq
        split at ha
        · rename_i hk
          split at ha
          · rename_i t0 T' aux
            unfold mm_goS at ha
            split at ha
            · rename_i hc
              obtain ⟨c1, c2, c3, c4⟩ := hc
              cases ha
              have ht : (t0, T, aux) ∈ [(t0, T, aux)] := List.mem_cons_self
              have hal : (st.take n).reverse.length = n := by rw [List.length_reverse, List.length_take]; omega
              have hpn := mm_ipn _ hcn _ hmem (by dsimp only; omega) (by dsimp only; omega) _ ht
              have hlen' := mm_nargs (as := (st.take n).reverse.map (mm_rv (mm_rho h0 sa))) hpn (by rw [List.length_map]; exact hal)
              rcases hk with rfl | rfl
              · obtain ⟨g1, g2, g3, g4⟩ := mm_ip0 _ hcn _ hmem rfl _ ht
                have g0 : 0 < T := mm_ipp _ hcn _ hmem (by dsimp only; omega) _ ht
                obtain ⟨mk, hn, hs⟩ := mx_stepS (p := p) (l := l) (e := e) (R := R) (below := below) (meth := meth) (c := c) (H := H) (locs := locs) (cells := cells) (slots := slots) (n := n) hx ho (hC.1 _ (List.mem_of_getElem? g2)) (hC.1 _ (List.mem_of_getElem? g3)) (hC.1 _ (List.mem_of_getElem? g4)) (mm_mx hC g1 g0) (mm_ms_ok T g1).2.2.2.1 (rest := (st.drop n).map (mm_rv (mm_rho h0 sa))) hlen' (by rw [hb]; exact hd) (ls := real)
                refine ⟨(st.take n).reverse, mk, _, g1, g0, by rw [hal]; exact c2, by unfold mm_cat1 at c3 ⊢; rw [List.all_reverse]; exact c3, rfl, c4, by rw [hb]; exact hd, List.mem_of_getElem? g4, hn, ?_⟩
                rw [mm_stS (mm_rv (mm_rho h0 sa)) st n]
                exact hs
              · obtain ⟨g1, g2, g3, g4⟩ := mm_ip1 _ hcn _ hmem rfl _ ht
                have g0 : 0 < T := mm_ipp _ hcn _ hmem (by dsimp only; omega) _ ht
                obtain ⟨mk, hn, hs⟩ := mx_stepSN (p := p) (l := l) (e := e) (R := R) (below := below) (meth := meth) (c := c) (H := H) (locs := locs) (cells := cells) (slots := slots) hx ho (hC.1 _ (List.mem_of_getElem? g2)) (hC.1 _ (List.mem_of_getElem? g3)) (hC.1 _ (List.mem_of_getElem? g4)) (mm_mx hC g1 g0) (mm_ms_ok T g1).2.2.2.1 (rest := (st.drop n).map (mm_rv (mm_rho h0 sa))) hlen' (by rw [hb]; exact hd) (ls := real)
                refine ⟨(st.take n).reverse, mk, _, g1, g0, by rw [hal]; exact c2, by unfold mm_cat1 at c3 ⊢; rw [List.all_reverse]; exact c3, rfl, c4, by rw [hb]; exact hd, List.mem_of_getElem? g4, hn, ?_⟩
                rw [mm_stS (mm_rv (mm_rho h0 sa)) st n]
                exact hs
            · cases ha
          · cases ha
        · exfalso
          unfold mm_aCpy at ha
          repeat' split at ha
          all_goals cases ha
      · cases ha
    · rename_i ix
      cases hlen rfl
      unfold mm_aSpc at ha
      split at ha
      · rename_i kd n xi tg hq
        have hmem := mm_lk_mem _ _ _ hq
        split at ha
        · rename_i a hst
          split at ha
          · rename_i hk
            split at ha
            · rename_i t0 T' aux
              unfold mm_goV at ha
              split at ha
              · rename_i hc
                obtain ⟨c1, c2, c3, c4⟩ := hc
                cases ha
                have ht : (t0, T, aux) ∈ [(t0, T, aux)] := List.mem_cons_self
                obtain ⟨e1, e2⟩ := mm_stV (mm_rv (mm_rho h0 sa)) st n _ hst
                have hal : (st.take n).reverse.length = n := by rw [List.length_reverse, List.length_take]; omega
                have hpn := mm_ipn _ hcn _ hmem (by dsimp only; omega) (by dsimp only; omega) _ ht
                have hlen' := mm_nargs (as := (st.take n).reverse.map (mm_rv (mm_rho h0 sa))) hpn (by rw [List.length_map]; exact hal)
                have hcat : mm_cat1 (.ref a :: (st.take n).reverse) = true := by unfold mm_cat1 at c3 ⊢; rw [List.all_cons, List.all_reverse, c3]; rfl
                rcases hk with rfl | rfl
                · obtain ⟨g1, g0, g2⟩ := mm_ip2a _ hcn _ hmem rfl _ ht
                  obtain ⟨g3, g4, g5⟩ := mm_ip2b _ hcn _ hmem rfl _ ht
                  obtain ⟨g6, g7⟩ := mm_ip2c _ hcn _ hmem rfl _ ht
                  have hcw : Cond.code (mm_y T) (mm_bytes T) (mm_mL T) none ∈ lw_tbl := mm_cw0 g1 g0 g3 g4
                  obtain ⟨mk, hn, hs⟩ := mx_stepI (p := p) (l := l) (e := e) (R := R) (below := below) (meth := meth) (c := c) (H := H) (locs := locs) (cells := cells) (slots := slots) (b := mm_rho h0 sa a) hx ho g2 (hC.1 _ (List.mem_of_getElem? g5)) (hC.1 _ (List.mem_of_getElem? g6)) (hC.1 _ hcw) (mm_ms_ok T g1).2.2.2.1 (rest := (st.drop (n + 1)).map (mm_rv (mm_rho h0 sa))) hlen' (by rw [hb]; exact hd) (ls := real)
                  refine ⟨.ref a :: (st.take n).reverse, mk, _, g1, g0, by rw [List.length_cons, hal]; exact c2, hcat, by rw [e2], c4, by rw [hb]; exact hd, List.mem_of_getElem? g7, hn, ?_⟩
                  rw [e1]
                  exact hs
                · obtain ⟨g1, g0, g2⟩ := mm_ip3a _ hcn _ hmem rfl _ ht
                  obtain ⟨g3, g4, g5⟩ := mm_ip3b _ hcn _ hmem rfl _ ht
                  obtain ⟨g6, g7⟩ := mm_ip3c _ hcn _ hmem rfl _ ht
                  have hcw : Cond.code (mm_y T) (mm_bytes T) (mm_mL T) none ∈ lw_tbl := mm_cw0 g1 g0 g3 g4
                  obtain ⟨mk, hn, hs⟩ := mx_stepIN (p := p) (l := l) (e := e) (R := R) (below := below) (meth := meth) (c := c) (H := H) (locs := locs) (cells := cells) (slots := slots) (b := mm_rho h0 sa a) hx ho g2 (hC.1 _ (List.mem_of_getElem? g5)) (hC.1 _ (List.mem_of_getElem? g6)) (hC.1 _ hcw) (mm_ms_ok T g1).2.2.2.1 (rest := (st.drop (n + 1)).map (mm_rv (mm_rho h0 sa))) hlen' (by rw [hb]; exact hd) (ls := real)
                  refine ⟨.ref a :: (st.take n).reverse, mk, _, g1, g0, by rw [List.length_cons, hal]; exact c2, hcat, by rw [e2], c4, by rw [hb]; exact hd, List.mem_of_getElem? g7, hn, ?_⟩
                  rw [e1]
                  exact hs
              · cases ha
            · cases ha
          · exfalso
            repeat' split at ha
            all_goals cases ha
        · cases ha
      · cases ha
    · rename_i ix
      cases hlen rfl
      unfold mm_aVrt at ha
      split at ha
      · rename_i kd n xi tg hq
        have hmem := mm_lk_mem _ _ _ hq
        split at ha
        · rename_i hk
          split at ha
          · rename_i a hst
            split at ha
            · rename_i cj fs hobj
              split at ha
              · rename_i q htg
                have ht := mm_lk_mem _ _ _ htg
                unfold mm_goV at ha
                split at ha
                · rename_i hc
                  obtain ⟨c1, c2, c3, c4⟩ := hc
                  cases ha
                  obtain ⟨ha1, ha2⟩ := mm_obj_ok hobj
                  obtain ⟨e1, e2⟩ := mm_stV (mm_rv (mm_rho h0 sa)) st n _ hst
                  have e3 : mm_rv (mm_rho h0 sa) (.ref a) = .ref (h0 + a) := by show Value.ref _ = _; rw [mm_rho_lt ha1]
                  have hal : (st.take n).reverse.length = n := by rw [List.length_reverse, List.length_take]; omega
                  have hcat : mm_cat1 (.ref a :: (st.take n).reverse) = true := by unfold mm_cat1 at c3 ⊢; rw [List.all_cons, List.all_reverse, c3]; rfl
                  have hmap : (.ref a :: (st.take n).reverse).map (mm_rv (mm_rho h0 sa)) = .ref (h0 + a) :: (st.take n).reverse.map (mm_rv (mm_rho h0 sa)) := by rw [List.map_cons, e3]
                  rcases hk with rfl | rfl | rfl
                  · obtain ⟨g0, g1, g2, g3, g4, g5⟩ := mm_ip4 _ hcn _ hmem rfl _ ht
                    have gp : 0 < q.1 := mm_ipp _ hcn _ hmem (by dsimp only; omega) _ ht
                    have hpn := mm_ipn _ hcn _ hmem (by dsimp only; omega) (by dsimp only; omega) _ ht
                    have hlen' := mm_nargs (as := (st.take n).reverse.map (mm_rv (mm_rho h0 sa))) hpn (by rw [List.length_map]; exact hal)
                    obtain ⟨cell, k1, k2, k3⟩ := mm_cell hC hH.1.1 ha2 (by show cj < 14; have : cj < 11 := g0; omega)
                    obtain ⟨mk, hn, hs⟩ := mx_stepV (p := p) (l := l) (e := e) (R := R) (below := below) (meth := meth) (c := c) (locs := locs) (cells := cells) (slots := slots) hx ho (hC.1 _ (List.mem_of_getElem? g2)) (hC.1 _ (List.mem_of_getElem? g3)) (hC.1 _ (List.mem_of_getElem? g5)) (mm_mx hC g1 gp) (mm_ms_ok q.1 g1).2.2.2.1 k1 (by rw [k2]; rfl) k3 (rest := (st.drop (n + 1)).map (mm_rv (mm_rho h0 sa))) hlen' (by rw [hb]; exact hd) (ls := real)
                    refine ⟨.ref a :: (st.take n).reverse, mk, _, g1, gp, by rw [List.length_cons, hal]; exact c2, hcat, by rw [e2], c4, by rw [hb]; exact hd, List.mem_of_getElem? g4, hn, ?_⟩
                    rw [e1, e3, hmap]
                    exact hs
                  · obtain ⟨g0, g1, g2⟩ := mm_ip5a _ hcn _ hmem rfl _ ht
                    obtain ⟨g3, g4, g5⟩ := mm_ip5b _ hcn _ hmem rfl _ ht
                    obtain ⟨g6, g7, g8⟩ := mm_ip5c _ hcn _ hmem rfl _ ht
                    have g9 := mm_ip5d _ hcn _ hmem rfl _ ht
                    have gp : 0 < q.1 := mm_ipp _ hcn _ hmem (by dsimp only; omega) _ ht
                    have hpn := mm_ipx _ hcn _ hmem rfl
                    have hlen' := mm_nargs (as := (st.take n).reverse.map (mm_rv (mm_rho h0 sa))) hpn (by rw [List.length_map]; exact hal)
                    obtain ⟨cell, k1, k2, k3⟩ := mm_cell hC hH.1.1 ha2 (by show cj < 14; have : cj < 11 := g0; omega)
                    obtain ⟨mk, hn, hs⟩ := mx_stepU (p := p) (l := l) (e := e) (R := R) (below := below) (meth := meth) (c := c) (locs := locs) (cells := cells) (slots := slots) hx ho (hC.1 _ (List.mem_of_getElem? g3)) (hC.1 _ (List.mem_of_getElem? g7)) (va_Decl.abs (va_Nw.of rfl (hC.1 _ (List.mem_of_getElem? g8)))) g9 (hC.1 _ (List.mem_of_getElem? g6)) (hC.1 _ (List.mem_of_getElem? g4)) k1 (by rw [k2]; rfl) k3 (rest := (st.drop (n + 1)).map (mm_rv (mm_rho h0 sa))) hlen' (by rw [hb]; exact hd) (ls := real)
                    refine ⟨.ref a :: (st.take n).reverse, mk, _, g1, gp, by rw [List.length_cons, hal]; exact c2, hcat, by rw [e2], c4, by rw [hb]; exact hd, List.mem_of_getElem? g5, hn, ?_⟩
                    rw [e1, e3, hmap]
                    exact hs
                  · obtain ⟨g0, g1, gp⟩ := mm_ip7a _ hcn _ hmem rfl _ ht
                    obtain ⟨g2, g3, g4⟩ := mm_ip7b _ hcn _ hmem rfl _ ht
                    obtain ⟨g5, g6⟩ := mm_ip7c _ hcn _ hmem rfl _ ht
                    have g7 := mm_ip7d _ hcn _ hmem rfl _ ht
                    have hpn := mm_ipn _ hcn _ hmem (by dsimp only; omega) (by dsimp only; omega) _ ht
                    have hlen' := mm_nargs (as := (st.take n).reverse.map (mm_rv (mm_rho h0 sa))) hpn (by rw [List.length_map]; exact hal)
                    obtain ⟨cell, k1, k2, k3⟩ := mm_cell hC hH.1.1 ha2 (by show cj < 14; have : cj < 11 := g0; omega)
                    obtain ⟨mk, hn, hs⟩ := mx_stepP (p := p) (l := l) (e := e) (R := R) (below := below) (meth := meth) (c := c) (locs := locs) (cells := cells) (slots := slots) hx ho (hC.1 _ (List.mem_of_getElem? g3)) (hC.1 _ (List.mem_of_getElem? g7)) (hC.1 _ (List.mem_of_getElem? g6)) (hC.1 _ (List.mem_of_getElem? g4)) (mm_mx hC g1 gp) (mm_ms_ok q.1 g1).2.2.2.1 k1 (by rw [k2]; rfl) (rest := (st.drop (n + 1)).map (mm_rv (mm_rho h0 sa))) hlen' (by rw [hb]; exact hd) (ls := real)
                    refine ⟨.ref a :: (st.take n).reverse, mk, _, g1, gp, by rw [List.length_cons, hal]; exact c2, hcat, by rw [e2], c4, by rw [hb]; exact hd, List.mem_of_getElem? g5, hn, ?_⟩
                    rw [e1, e3, hmap]
                    exact hs
                · cases ha
              · cases ha
            · cases ha
          · cases ha
        · cases ha
      · cases ha
    · exfalso; repeat' split at ha
      all_goals cases ha
    · exfalso; repeat' split at ha
      all_goals cases ha
    · exfalso; repeat' split at ha
      all_goals cases ha
    · exfalso; split at ha <;> cases ha
  · cases ha
end MC
