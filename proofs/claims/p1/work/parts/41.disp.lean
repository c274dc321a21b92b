/-! the law's start and its switch -/
theorem mm_Z4le (L : Nat) (xs : Nat → Int32) : mm_Zle mm_Z4 (mm_Z L xs) := by
  intro j q h
  unfold mm_Z4 at h
  split at h
  · rename_i hj
    match j, hj, h with
    | 0, _, h => exact h
    | 1, _, h => exact h
    | 2, _, h => exact h
    | 3, _, h => exact h
    | j + 4, hj, _ => omega
  · cases h
set_option maxRecDepth 100000 in
theorem mm_start0 : mm_to (mm_act mm_Z4) mm_hand 23 2000 9 0 (0, mm_ls0 0 [.ref 1000004], [], []) = some (23, mm_lw0, [], mm_w0) := by rfl
def mm_Oq (L : Nat) (xs : Nat → Int32) (pc : Nat) (st : List Value) : Prop := ∃ w', mm_X (mm_Z L xs) 9 0 (pc, mm_lw0, st, mm_w0) (.inl (some (.int 1)), w') ∧ w'.length ≤ 600002 ∧ mm_sl w' ≤ 7302232
theorem mm_Oq_mono {L : Nat} {xs : Nat → Int32} {pc pc' : Nat} {st st' : List Value} (k : ∀ r, mm_X (mm_Z L xs) 9 0 (pc', mm_lw0, st', mm_w0) r → mm_X (mm_Z L xs) 9 0 (pc, mm_lw0, st, mm_w0) r) (h : mm_Oq L xs pc' st') : mm_Oq L xs pc st := by
  obtain ⟨w', h1, h2⟩ := h
  exact ⟨w', k _ h1, h2⟩
theorem mm_w0_sz : mm_w0.length ≤ 600002 ∧ mm_sl mm_w0 ≤ 7302232 := ⟨Nat.le_trans mm_sz0.1 (mm_ble rfl), Nat.le_trans mm_sz0.2 (mm_ble rfl)⟩
set_option maxRecDepth 100000 in
theorem mm_short (L : Nat) (xs : Nat → Int32) (hL : L ≤ 8) : mm_Oq L xs 23 [] := by
  refine ⟨mm_w0, ?_, mm_w0_sz⟩
  match L, hL with
  | 0, _ => exact mm_xk (S' := (1096, mm_lw0, [.int 1], mm_w0)) 7 3000 rfl (mm_xfn rfl)
  | 1, _ => exact mm_xk (S' := (1096, mm_lw0, [.int 1], mm_w0)) 7 3000 rfl (mm_xfn rfl)
  | 2, _ => exact mm_xk (S' := (1096, mm_lw0, [.int 1], mm_w0)) 7 3000 rfl (mm_xfn rfl)
  | 3, _ => exact mm_xk (S' := (1096, mm_lw0, [.int 1], mm_w0)) 7 3000 rfl (mm_xfn rfl)
  | 4, _ => exact mm_xk (S' := (1096, mm_lw0, [.int 1], mm_w0)) 7 3000 rfl (mm_xfn rfl)
  | 5, _ => exact mm_xk (S' := (1096, mm_lw0, [.int 1], mm_w0)) 7 3000 rfl (mm_xfn rfl)
  | 6, _ => exact mm_xk (S' := (1096, mm_lw0, [.int 1], mm_w0)) 7 3000 rfl (mm_xfn rfl)
  | 7, _ => exact mm_xk (S' := (1096, mm_lw0, [.int 1], mm_w0)) 7 3000 rfl (mm_xfn rfl)
  | 8, _ => exact mm_xk (S' := (1096, mm_lw0, [.int 1], mm_w0)) 7 3000 rfl (mm_xfn rfl)
  | n + 9, h => exact absurd h (by omega)
theorem mm_ofn (y : Int32) : Int32.ofNat y.toBitVec.toNat = y := by
  apply Int32.toBitVec_inj.mp
  show BitVec.ofNat 32 y.toBitVec.toNat = y.toBitVec
  apply BitVec.eq_of_toNat_eq
  rw [BitVec.toNat_ofNat]
  exact Nat.mod_eq_of_lt y.toBitVec.isLt
theorem mm_and15 (x : Int32) : ∃ c : Nat, c < 16 ∧ x &&& 15 = Int32.ofNat c := by
  refine ⟨(x &&& 15).toBitVec.toNat, ?_, (mm_ofn _).symm⟩
  have e : (x &&& 15).toBitVec = x.toBitVec &&& 15#32 := by first | rfl | exact Int32.toBitVec_and x 15
  have h : (x.toBitVec &&& 15#32).toNat ≤ 15 := by rw [BitVec.toNat_and]; exact Nat.and_le_right
  rw [e]
  exact Nat.lt_succ_of_le h
set_option maxRecDepth 100000 in
theorem mm_nine (xs : Nat → Int32) : mm_Oq 9 xs 23 [] := by
  refine mm_Oq_mono (pc' := 40) (st' := [.int (xs 0 &&& 15)]) (fun r g => mm_xk (S' := (40, mm_lw0, [.int (xs 0 &&& 15)], mm_w0)) 11 3000 rfl g) ?_
  obtain ⟨c, hc, e⟩ := mm_and15 (xs 0)
  rw [e]
  match c, hc with
  | 0, _ => exact mm_Oq_mono (pc' := 120) (st' := []) (fun r g => mm_xk (S' := (120, mm_lw0, [], mm_w0)) 1 3000 rfl g) (mm_cs0 xs)
  | 1, _ => exact mm_Oq_mono (pc' := 192) (st' := []) (fun r g => mm_xk (S' := (192, mm_lw0, [], mm_w0)) 1 3000 rfl g) (mm_cs1 xs)
  | 2, _ => exact mm_Oq_mono (pc' := 318) (st' := []) (fun r g => mm_xk (S' := (318, mm_lw0, [], mm_w0)) 1 3000 rfl g) (mm_cs2 xs)
  | 3, _ => exact mm_Oq_mono (pc' := 398) (st' := []) (fun r g => mm_xk (S' := (398, mm_lw0, [], mm_w0)) 1 3000 rfl g) (mm_cs3 xs)
  | 4, _ => exact mm_Oq_mono (pc' := 482) (st' := []) (fun r g => mm_xk (S' := (482, mm_lw0, [], mm_w0)) 1 3000 rfl g) (mm_cs4 xs)
  | 5, _ => exact mm_Oq_mono (pc' := 538) (st' := []) (fun r g => mm_xk (S' := (538, mm_lw0, [], mm_w0)) 1 3000 rfl g) (mm_cs5 xs)
  | 6, _ => exact mm_Oq_mono (pc' := 551) (st' := []) (fun r g => mm_xk (S' := (551, mm_lw0, [], mm_w0)) 1 3000 rfl g) (mm_cs6 xs)
  | 7, _ => exact mm_Oq_mono (pc' := 607) (st' := []) (fun r g => mm_xk (S' := (607, mm_lw0, [], mm_w0)) 1 3000 rfl g) (mm_cs7 xs)
  | 8, _ => exact mm_Oq_mono (pc' := 711) (st' := []) (fun r g => mm_xk (S' := (711, mm_lw0, [], mm_w0)) 1 3000 rfl g) (mm_cs8 xs)
  | 9, _ => exact mm_Oq_mono (pc' := 747) (st' := []) (fun r g => mm_xk (S' := (747, mm_lw0, [], mm_w0)) 1 3000 rfl g) (mm_cs9 xs)
  | 10, _ => exact mm_Oq_mono (pc' := 815) (st' := []) (fun r g => mm_xk (S' := (815, mm_lw0, [], mm_w0)) 1 3000 rfl g) (mm_cs10 xs)
  | 11, _ => exact mm_Oq_mono (pc' := 859) (st' := []) (fun r g => mm_xk (S' := (859, mm_lw0, [], mm_w0)) 1 3000 rfl g) (mm_cs11 xs)
  | 12, _ => exact mm_Oq_mono (pc' := 872) (st' := []) (fun r g => mm_xk (S' := (872, mm_lw0, [], mm_w0)) 1 3000 rfl g) (mm_cs12 xs)
  | 13, _ => exact mm_Oq_mono (pc' := 885) (st' := []) (fun r g => mm_xk (S' := (885, mm_lw0, [], mm_w0)) 1 3000 rfl g) (mm_cs13 xs)
  | 14, _ => exact mm_Oq_mono (pc' := 941) (st' := []) (fun r g => mm_xk (S' := (941, mm_lw0, [], mm_w0)) 1 3000 rfl g) (mm_cs14 xs)
  | 15, _ => exact mm_Oq_mono (pc' := 1021) (st' := []) (fun r g => mm_xk (S' := (1021, mm_lw0, [], mm_w0)) 1 3000 rfl g) (mm_cs15 xs)
  | n + 16, h => exact absurd h (by omega)
theorem mm_pure9 : mm_Pure 9 := by
  intro L xs hL
  have h : mm_Oq L xs 23 [] := by
    by_cases h9 : L = 9
    · subst h9; exact mm_nine xs
    · exact mm_short L xs (by omega)
  obtain ⟨w', hx, h1, h2⟩ := h
  obtain ⟨n, hn⟩ := mm_xto _ _ _ _ _ _ (mm_to_Z (mm_Z4le L xs) _ _ _ _ _ mm_start0) hx
  exact ⟨n, w', hn, h1, h2⟩
