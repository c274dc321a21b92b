/-! the law's start and its room -/
theorem cond_le {b : Bool} {x1 y1 x2 y2 : Int} (h1 : x1 ≤ x2) (h2 : y1 ≤ y2) : cond b x1 y1 ≤ cond b x2 y2 := by
  cases b
  · exact h2
  · exact h1
theorem cond_z {b : Bool} {x y : Int} (h1 : x ≤ 0) (h2 : y ≤ 0) : cond b x y ≤ 0 := by
  cases b
  · exact h2
  · exact h1
theorem cond_p {b : Bool} {x y : Int} (h1 : 0 ≤ x) (h2 : 0 ≤ y) : 0 ≤ cond b x y := by
  cases b
  · exact h2
  · exact h1
set_option maxRecDepth 100000 in
theorem bS_lh (k : Nat) : bS_lo k ≤ bS_hi k := by
  unfold bS_lo bS_hi
  repeat' first | exact (by decide) | apply cond_le
def s00 (k : Nat) : Int := max (bS_lo k) (min (bS_hi k) 0)
theorem bS_00 : bS s00 := by
  intro k
  have h := bS_lh k
  unfold s00
  omega
theorem bC_00 {D : Nat → Nat × Nat} : bC D (fun _ _ => 0) := by
  intro a i
  constructor
  · show bC_lo D a ≤ 0
    unfold bC_lo
    repeat' first | exact (by decide) | apply cond_z
  · show 0 ≤ bC_hi D a
    unfold bC_hi
    repeat' first | exact (by decide) | apply cond_p
def hs0 : Nat → Int := (us (us (us (us (us (us (us (us (us (us (us s00 11 (-1)) 100 8) 101 8) 103 8) 1602 8) 2004 (-1)) 2006 (-1)) 3001 8) 3002 8) 3004 8) 3051 (-1))
def hp0 : Nat → Nat := (up (up (up (up (up (up (up (up (up (up (up (up (up (up (up (fun _ => 0) 8 25) 9 27) 104 29) 400 5) 600 7) 900 10) 901 11) 1203 13) 1204 14) 1205 15) 2103 22) 2104 23) 2105 24) 2504 26) 2704 28)
def hD0 : Nat → Nat × Nat := fun _ => (0, 0)
def hH0 : mi_H := (0, hD0, hs0, hp0, fun _ _ => 0)
theorem bS_h0 : bS hs0 := (bS_us (bS_us (bS_us (bS_us (bS_us (bS_us (bS_us (bS_us (bS_us (bS_us (bS_us bS_00 (show (-1 : Int) ≤ (-1) ∧ ((-1) : Int) ≤ 100000 by decide)) (show (1 : Int) ≤ 8 ∧ (8 : Int) ≤ 64 by decide)) (show (1 : Int) ≤ 8 ∧ (8 : Int) ≤ 64 by decide)) (show (2 : Int) ≤ 8 ∧ (8 : Int) ≤ 16 by decide)) (show (1 : Int) ≤ 8 ∧ (8 : Int) ≤ 8 by decide)) (show (-1 : Int) ≤ (-1) ∧ ((-1) : Int) ≤ 100000 by decide)) (show (-1 : Int) ≤ (-1) ∧ ((-1) : Int) ≤ 100000 by decide)) (show (1 : Int) ≤ 8 ∧ (8 : Int) ≤ 64 by decide)) (show (1 : Int) ≤ 8 ∧ (8 : Int) ≤ 64 by decide)) (show (2 : Int) ≤ 8 ∧ (8 : Int) ≤ 16 by decide)) (show (-1 : Int) ≤ (-1) ∧ ((-1) : Int) ≤ 32769 by decide))
set_option maxRecDepth 100000 in
theorem wp_h0 : wp 0 hs0 0 hD0 hp0 hs0 :=
  ⟨⟨0, 0, rfl, rfl, by decide, by decide, Nat.zero_le _, Nat.zero_le _⟩, fun _ _ => rfl, ⟨rfl, rfl, rfl⟩, ⟨rfl, rfl, rfl⟩, (by decide +kernel), (by decide +kernel), ⟨rfl, ⟨rfl, rfl⟩, by decide +kernel⟩, ⟨rfl, ⟨rfl, rfl⟩, by decide +kernel⟩, ⟨rfl, ⟨rfl, rfl⟩, by decide +kernel⟩, (by decide +kernel), (by decide +kernel), (by decide +kernel), Or.inl ⟨rfl, rfl⟩, Or.inl ⟨rfl, rfl⟩, Or.inl ⟨rfl, rfl⟩, Or.inl ⟨rfl, rfl⟩, ⟨rfl, ⟨rfl, rfl⟩, by decide +kernel⟩, ⟨rfl, ⟨rfl, rfl⟩, by decide +kernel⟩, Or.inr (show w_ok (hs0 1601) (hs0 1602) from w_ok0 (Or.inr rfl)), fun _ _ => rfl⟩
set_option maxRecDepth 100000 in
theorem mk_h0 : mi_mk hH0 = mm_w0 := by rfl
def zi_ (L : Nat) (xs : Nat → Int32) : Nat → Option (Nat × (Nat → Int)) := fun j => match j with
  | 0 => some (3, fun k => ((mm_sd 0).getD k 0).toInt)
  | 1 => some (3, fun k => ((mm_sd 1).getD k 0).toInt)
  | 2 => some (3, fun k => ((mm_sd 2).getD k 0).toInt)
  | 3 => some (32, fun k => ((mm_sd 3).getD k 0).toInt)
  | 4 => some (L, fun k => (xs k).toInt)
  | _ => none
theorem zi_cz (L : Nat) (xs : Nat → Int32) : mi_cz (zi_ L xs) = mm_Z L xs := by
  funext j
  match j with
  | 0 => show some (3, fun i => Int32.ofInt (((mm_sd 0).getD i 0).toInt)) = _; simp only [Int32.ofInt_toInt]; rfl
  | 1 => show some (3, fun i => Int32.ofInt (((mm_sd 1).getD i 0).toInt)) = _; simp only [Int32.ofInt_toInt]; rfl
  | 2 => show some (3, fun i => Int32.ofInt (((mm_sd 2).getD i 0).toInt)) = _; simp only [Int32.ofInt_toInt]; rfl
  | 3 => show some (32, fun i => Int32.ofInt (((mm_sd 3).getD i 0).toInt)) = _; simp only [Int32.ofInt_toInt]; rfl
  | 4 => show some (L, fun i => Int32.ofInt ((xs i).toInt)) = _; simp only [Int32.ofInt_toInt]; rfl
  | j + 5 => rfl
theorem getD_bd {lo hi : Int} (h0 : lo ≤ 0 ∧ 0 ≤ hi) : ∀ (l : List Int32), (l.all fun x => decide (lo ≤ x.toInt) && decide (x.toInt ≤ hi)) = true → ∀ i : Nat, lo ≤ (l.getD i 0).toInt ∧ (l.getD i 0).toInt ≤ hi
  | [], _, i => h0
  | a :: l, h, i => by
    rw [List.all_cons, Bool.and_eq_true, Bool.and_eq_true] at h
    match i with
    | 0 => exact ⟨of_decide_eq_true h.1.1, of_decide_eq_true h.1.2⟩
    | i + 1 => exact getD_bd h0 l h.2 i
theorem sd_3 : ∀ i : Nat, i < 32 → (((mm_sd 3).getD i 0).toInt : Int) = jj i := by decide +kernel
theorem zi_zk (L : Nat) (xs : Nat → Int32) : zk (zi_ L xs) :=
  ⟨⟨_, rfl, getD_bd (by decide) _ (by decide)⟩, ⟨_, rfl, getD_bd (by decide) _ (by decide)⟩, ⟨_, rfl, getD_bd (by decide) _ (by decide)⟩, ⟨_, rfl, getD_bd (by decide) _ (by decide)⟩,
   (fun f h => by injection h with h; injection h with _ h; subst h; exact ⟨rfl, rfl, rfl⟩), (fun f h => by injection h with h; injection h with _ h; subst h; exact ⟨rfl, rfl, rfl⟩), (fun f h => by injection h with h; injection h with _ h; subst h; exact ⟨rfl, rfl, rfl⟩), (fun f h => by injection h with h; injection h with _ h; subst h; exact sd_3)⟩
theorem mm_Z4le (L : Nat) (xs : Nat → Int32) : mm_Zle mm_Z4 (mm_Z L xs) := by
  intro j q h
  unfold mm_Z4 at h
  split at h
  · rename_i hj
    match j, hj, h with
    | 0, _, h => exact h
    | 1, _, h => exact h
    | 2, _, h => exact h
    | 3, _, h => exact h
    | j + 4, hj, _ => omega
  · cases h
set_option maxRecDepth 100000 in
theorem mm_start0 : mm_to (mm_act mm_Z4) mm_hand 23 2000 12 0 (0, mm_ls0 0 [.ref 1000004], [], []) = some (23, mm_lw0, [], mm_w0) := by rfl
/-! the room -/
theorem cs_ce {t m : Nat} {s : Nat → Int} {p : Nat → Nat} {f : Nat → Int} {a : Nat} : mm_cs (mi_ce (t, m) s p f a) ≤ m + 63 := by
  match t with
  | 0 => exact Nat.le_add_right m 63
  | 1 => exact Nat.le_add_right m 63
  | 2 => exact Nat.le_add_right m 63
  | t + 3 =>
    show (if t < 11 then mm_N t else 6) ≤ m + 63
    split
    · rename_i h
      have := mi_N_lt t h
      omega
    · omega
theorem sl_mk {D : Nat → Nat × Nat} {s : Nat → Int} {p : Nat → Nat} {c : Nat → Nat → Int} : ∀ n : Nat, mm_sl (mi_mk (n, D, s, p, c)) ≤ mm_sl (mi_mk (0, D, s, p, c)) + tot n D + 63 * n
  | 0 => by omega
  | n + 1 => by
    have ih := sl_mk (D := D) (s := s) (p := p) (c := c) n
    have e : mi_mk (n + 1, D, s, p, c) = mi_mk (n, D, s, p, c) ++ [mi_cell (n, D, s, p, c) (48 + n)] := by
      show (List.range (48 + n + 1)).map _ = (List.range (48 + n)).map _ ++ _
      rw [List.range_succ, List.map_append]
      rfl
    rw [e, mm_sl_push, tot]
    have h1 : mm_cs (mi_cell (n, D, s, p, c) (48 + n)) ≤ (D (48 + n)).2 + 63 := by
      have hd : mi_dsc D (48 + n) = D (48 + n) := by
        unfold mi_dsc
        rw [Nat.ble_eq_true_of_le (Nat.le_add_right 48 n)]
        rfl
      show mm_cs (mi_ce (mi_dsc D (48 + n)) _ _ _ _) ≤ _
      rw [hd]
      exact cs_ce
    omega
def csd (d : Nat × Nat) : Nat := match d with
  | (0, n) => n
  | (1, n) => n
  | (2, n) => n
  | (k + 3, _) => if k < 11 then mm_N k else 6
theorem cs_d {d : Nat × Nat} {s : Nat → Int} {p : Nat → Nat} {f : Nat → Int} {a : Nat} : mm_cs (mi_ce d s p f a) = csd d := by
  obtain ⟨t, m⟩ := d
  match t with
  | 0 => rfl
  | 1 => rfl
  | 2 => rfl
  | t + 3 => rfl
theorem sl_c : ((List.range 48).map (fun a => csd (mi_d0 a))).sum ≤ 300000 := by decide +kernel
theorem sl_0 {D : Nat → Nat × Nat} {s : Nat → Int} {p : Nat → Nat} {c : Nat → Nat → Int} : mm_sl (mi_mk (0, D, s, p, c)) ≤ 300000 := by
  have e : (mi_mk (0, D, s, p, c)).map mm_cs = (List.range 48).map (fun a => csd (mi_d0 a)) := by
    show ((List.range 48).map (mi_cell (0, D, s, p, c))).map mm_cs = _
    rw [List.map_map]
    apply List.map_congr_left
    intro a ha
    have ha := List.mem_range.mp ha
    show mm_cs (mi_ce (mi_dsc D a) s p (c a) a) = _
    rw [cs_d, mi_dsc_lt ha]
  unfold mm_sl
  rw [e]
  exact sl_c
theorem cW_room {g : Nat → Int} {H : mi_H} (h : cW 520 g H) : (mi_mk H).length ≤ 601024 ∧ mm_sl (mi_mk H) ≤ 7293034 := by
  obtain ⟨n, D, s, p, c⟩ := H
  have hW : wp 520 g n D p s := h.2.2
  have hn := (wp_n hW (by decide)).2
  obtain ⟨k4, k6, e4, e6, b4, b6, hn2, ht⟩ := hW.nb
  have q4 := pw64 b4
  have q6 := pw64 b6
  have hp : ∀ m, m ≤ 12288 → pq m ≤ 36864 := by
    intro m hm
    unfold pq
    split <;> omega
  have p1 := hp _ hW.p1.2.2
  have p2 := hp _ hW.p25.2.2
  have p3 := hp _ hW.p27.2.2
  have h1 := sl_mk (D := D) (s := s) (p := p) (c := c) n
  have h2 := sl_0 (D := D) (s := s) (p := p) (c := c)
  rw [mi_mk_len]
  constructor
  · show 48 + n ≤ 601024
    omega
  · omega
theorem wd_h0 : wd 0 hp0 := by
  unfold wd
  decide +kernel
set_option maxRecDepth 100000 in
theorem mm_pureN : mm_Pure 4608 := by
  intro L xs hL
  have h := law_L (Zi := zi_ L xs) (L := L) (xs := fun k => (xs k).toInt) (zi_zk L xs) rfl (fun i => mi_rg _) hL 5000 0 0 none none hH0 ⟨bS_h0, bC_00, wp_h0, wd_h0⟩ ⟨rfl, rfl, rfl, rfl⟩ ⟨fun _ _ _ => 0, fun _ _ _ _ _ _ => rfl, fun _ _ _ _ _ _ => rfl⟩ ⟨fun _ _ => rfl, ⟨rfl, rfl⟩, ⟨rfl, fun _ _ => rfl⟩, rfl, fun _ _ => rfl, ⟨Or.inl rfl, rfl, fun h => absurd (show (0 : Int) = 1 from h) (by decide)⟩, ⟨fun _ _ => 0, fun _ _ => ⟨rfl, rfl, rfl, rfl⟩, fun _ _ => ⟨rfl, rfl, rfl, rfl⟩⟩⟩ (by decide) (by decide) (by decide) (by decide)
  obtain ⟨k, r, H, h1, h2, g, h3⟩ := h
  rw [zi_cz, h2] at h1
  have e : mi_cS (23, [some (.inr (.inl 1000004)), some (.inr (.inl 0)), some (.inr (.inl 30)), some (.inr (.inl 47)), some (.inl 0), none, none], [], hH0) = (23, mm_lw0, [], mm_w0) := by
    show (23, _, _, mi_mk hH0) = _
    rw [mk_h0]
    rfl
  rw [e] at h1
  have hx : mm_X (mm_Z L xs) 12 0 (23, mm_lw0, [], mm_w0) (.inl (some (.int 1)), mi_mk H) := ⟨k, h1⟩
  obtain ⟨n, hn⟩ := mm_xto _ _ _ _ _ _ (mm_to_Z (mm_Z4le L xs) _ _ _ _ _ mm_start0) hx
  exact ⟨n, mi_mk H, hn, cW_room h3⟩
