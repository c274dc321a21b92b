/-! the law's helpers -/
theorem gz_if {s A g : Nat → Int} {r : Int} {k : Nat} (h : s k = (if r = 0 then A else g) k) : s k = if r = 0 then A k else g k := by
  by_cases e : r = 0
  · rw [if_pos e] at h ⊢
    exact h
  · rw [if_neg e] at h ⊢
    exact h
theorem gz_is {s A g : Nat → Int} {r : Int} {k : Nat} (h : s k = (if r = 0 then A else g) k) (e : A k = g k) : s k = g k := by
  by_cases e0 : r = 0
  · rw [if_pos e0] at h
    exact h.trans e
  · rw [if_neg e0] at h
    exact h
def meP (r ag0 ag1 ag2 ag3 ag4 dp : Int) : Prop := (r = 0 ∧ ((0 ≤ ag0 ∧ ag0 ≤ 65535) ∧ (0 ≤ ag1 ∧ ag1 ≤ 65535) ∧ (0 ≤ ag2 ∧ ag2 ≤ 65535) ∧ (0 ≤ ag3 ∧ ag3 ≤ 65535) ∧ (0 ≤ ag4 ∧ ag4 ≤ 65535) ∧ ag0 ≤ mi_shl 1 dp - 1)) ∨ (r = 1 ∧ ¬ ((0 ≤ ag0 ∧ ag0 ≤ 65535) ∧ (0 ≤ ag1 ∧ ag1 ≤ 65535) ∧ (0 ≤ ag2 ∧ ag2 ≤ 65535) ∧ (0 ≤ ag3 ∧ ag3 ≤ 65535) ∧ (0 ≤ ag4 ∧ ag4 ≤ 65535) ∧ ag0 ≤ mi_shl 1 dp - 1))
def dwP (r ag0 ag1 ag2 ag3 ag4 ag5 ag6 ag7 w hh pl dp : Int) : Prop := (r = 1 ∧ ¬ (0 ≤ ag0 ∧ ag0 < pl ∧ 0 < ag3 ∧ 0 < ag4 ∧ 0 ≤ ag1 ∧ 0 ≤ ag2 ∧ ag1 < w ∧ ag2 < hh ∧ ag3 ≤ w - ag1 ∧ ag4 ≤ hh - ag2)) ∨ (r = 2 ∧ (0 ≤ ag0 ∧ ag0 < pl ∧ 0 < ag3 ∧ 0 < ag4 ∧ 0 ≤ ag1 ∧ 0 ≤ ag2 ∧ ag1 < w ∧ ag2 < hh ∧ ag3 ≤ w - ag1 ∧ ag4 ≤ hh - ag2) ∧ ¬ ((0 ≤ ag5 ∧ ag5 ≤ mi_shl 1 dp - 1) ∧ (0 ≤ ag6 ∧ ag6 ≤ mi_shl 1 dp - 1) ∧ (0 ≤ ag7 ∧ ag7 ≤ 65535))) ∨ (r = 0 ∧ (0 ≤ ag0 ∧ ag0 < pl ∧ 0 < ag3 ∧ 0 < ag4 ∧ 0 ≤ ag1 ∧ 0 ≤ ag2 ∧ ag1 < w ∧ ag2 < hh ∧ ag3 ≤ w - ag1 ∧ ag4 ≤ hh - ag2) ∧ ((0 ≤ ag5 ∧ ag5 ≤ mi_shl 1 dp - 1) ∧ (0 ≤ ag6 ∧ ag6 ≤ mi_shl 1 dp - 1) ∧ (0 ≤ ag7 ∧ ag7 ≤ 65535)))
theorem tt_lsb {Zi : Nat → Option (Nat × (Nat → Int))} {d M pc len : Nat} {ls : List (Option mi_V)} {st : List mi_V} {n : Nat} {D : Nat → Nat × Nat} {s : Nat → Int} {p : Nat → Nat} {c : Nat → Nat → Int} {Q : mi_Rs → mi_H → Prop} {a m : Nat} {i x : Int} (hk : mm_kT M pc = some (.lastore, len)) (ha : mi_arr n D a = some (2, m)) (hi : 0 ≤ i ∧ i < m ∧ i ≤ 2147483647) (hC : bC D c) (hb : bC_lo D a = -2147483648 ∧ bC_hi D a = 2147483647) (hx : -2147483648 ≤ x ∧ x ≤ 2147483647) (g : ∀ c1, bC D c1 → tt Zi d M (pc + 1, ls, st, n, D, s, p, c1) Q) : tt Zi d M (pc, ls, .inr (.inr x) :: .inl i :: .inr (.inl a) :: st, n, D, s, p, c) Q :=
  tt_lst hk ha hi (g _ (bC_st hC (by rw [hb.1, hb.2]; exact hx)))
theorem tt_lno {Zi : Nat → Option (Nat × (Nat → Int))} {d M pc len m j : Nat} {ls : List (Option mi_V)} {st : List mi_V} {f : Nat → Int} {H : mi_H} {Q : mi_Rs → mi_H → Prop} (hk : mm_kT M pc = some (.arraylength, len)) (ho : Zi j = some (m, f)) (g : tt Zi d M (pc + 1, ls, .inl (m : Int) :: st, H) Q) : tt Zi d M (pc, ls, .inr (.inl (1000000 + j)) :: st, H) Q := by
  have ha : mi_arr H.1 H.2.1 (1000000 + j) = none := arr_st
  have h2 : mi_old Zi (1000000 + j) = some (m, f) := by
    unfold mi_old
    rw [Nat.ble_eq_true_of_le (by omega)]
    show Zi (1000000 + j - 1000000) = _
    rw [Nat.add_sub_cancel_left]
    exact ho
  refine tt_st (S' := (pc + 1, ls, .inl (m : Int) :: st, H)) ?_ g
  unfold mi_act
  simp only [hk, mi_aLen, ha, h2]
set_option maxRecDepth 100000 in
set_option maxHeartbeats 4000000 in
theorem h_canvas {g : Nat → Int} {Zi : Nat → Option (Nat × (Nat → Int))} {d n q : Nat} {D : Nat → Nat × Nat} {s : Nat → Int} {p : Nat → Nat} {c : Nat → Nat → Int} (hd : 8 ≤ d) (hz : zk Zi) (hq : q + 16 ≤ 400000) (hS : bS s) (hC : bC D c) (hW : wp q g n D p s) (ag0 : Int) (ag1 : Int) (ag2 : Int) (ag3 : Int) (b_ag0 : -2147483648 ≤ ag0 ∧ ag0 ≤ 2147483647) (b_ag1 : -2147483648 ≤ ag1 ∧ ag1 ≤ 2147483647) (b_ag2 : -2147483648 ≤ ag2 ∧ ag2 ≤ 2147483647) (b_ag3 : -2147483648 ≤ ag3 ∧ ag3 ≤ 2147483647) : tt Zi d 92 (0, [some (.inr (.inl 0)), some (.inl ag0), some (.inl ag1), some (.inl ag2), some (.inl ag3), none], [], n, D, s, p, c) (fun R H => (∃ r : Int, R = .inl (some (.inl r)) ∧ (0 ≤ r ∧ r ≤ 2) ∧ cW (q + 1) (if r = 0 then (us (us (us (us g 100 ag0) 101 ag1) 102 ag2) 103 ag3) else g) H ∧ ((r = 0 ∧ (1 ≤ ag0 ∧ ag0 ≤ 64) ∧ (1 ≤ ag1 ∧ ag1 ≤ 64) ∧ (ag2 = 1 ∨ ag2 = 3) ∧ (2 ≤ ag3 ∧ ag3 ≤ 16)) ∨ (r = 1 ∧ ¬ ((1 ≤ ag0 ∧ ag0 ≤ 64) ∧ (1 ≤ ag1 ∧ ag1 ≤ 64) ∧ (ag2 = 1 ∨ ag2 = 3) ∧ (2 ≤ ag3 ∧ ag3 ≤ 16)))))) := by
  refine tt_k 5 (S' := (6, [some (.inr (.inl 0)), some (.inl ag0), some (.inl ag1), some (.inl ag2), some (.inl ag3), none], [.inl ag3, .inl ag2, .inl ag1, .inl ag0, .inr (.inl 0)], n, D, s, p, c)) rfl ?_
  refine tt_cl (by omega) rfl (g_canvas (Zi := Zi) (q := q) (n := n) (D := D) (s := s) (p := p) (c := c) (by omega) hz (by omega) hS hC hW ag0 ag1 ag2 ag3 (by omega) (by omega) (by omega) (by omega)) ?_
  rintro _ ⟨n1, D2, s3, p4, c5⟩ (⟨rfl, hY6, k7⟩ | ⟨rfl, hY8, k9⟩)
  rotate_left
  · skip
    have hS3 : bS s3 := hY8.1
    have hC5 : bC D2 c5 := hY8.2.1
    have hW4 : wp _ _ n1 D2 p4 s3 := hY8.2.2
    show tt Zi d 92 (12, [some (.inr (.inl 0)), some (.inl ag0), some (.inl ag1), some (.inl ag2), some (.inl ag3), none], [.inr (.inl (47 + n1))], n1, D2, s3, p4, c5) _
    refine tt_k 2 (S' := (15, [some (.inr (.inl 0)), some (.inl ag0), some (.inl ag1), some (.inl ag2), some (.inl ag3), some (.inr (.inl (47 + n1)))], [.inl 1], n1, D2, s3, p4, c5)) rfl ?_
    exact tt_rti rfl rfl ⟨1, rfl, by omega, (by rw [if_neg (by decide)]; exact cW_mono (q := (q + 1)) (show cW (q + 1) g (n1, D2, s3, p4, c5) from ⟨hS3, hC5, hW4⟩) (by omega)), by exact Or.inr ⟨rfl, k9⟩⟩
  have hS3 : bS s3 := hY6.1
  have hC5 : bC D2 c5 := hY6.2.1
  have hW4 : wp _ _ n1 D2 p4 s3 := hY6.2.2
  show tt Zi d 92 (9, [some (.inr (.inl 0)), some (.inl ag0), some (.inl ag1), some (.inl ag2), some (.inl ag3), none], [], n1, D2, s3, p4, c5) _
  refine tt_k 2 (S' := (17, [some (.inr (.inl 0)), some (.inl ag0), some (.inl ag1), some (.inl ag2), some (.inl ag3), none], [.inl 0], n1, D2, s3, p4, c5)) rfl ?_
  exact tt_rti rfl rfl ⟨0, rfl, by omega, (by rw [if_pos rfl]; exact cW_mono (q := (q + 1)) (show cW (q + 1) (us (us (us (us g 100 ag0) 101 ag1) 102 ag2) 103 ag3) (n1, D2, s3, p4, c5) from ⟨hS3, hC5, hW4⟩) (by omega)), by exact Or.inl ⟨rfl, k7⟩⟩
set_option maxRecDepth 100000 in
set_option maxHeartbeats 4000000 in
theorem h_draw {g : Nat → Int} {Zi : Nat → Option (Nat × (Nat → Int))} {d n q : Nat} {D : Nat → Nat × Nat} {s : Nat → Int} {p : Nat → Nat} {c : Nat → Nat → Int} (hd : 8 ≤ d) (hz : zk Zi) (hq : q + 16 ≤ 400000) (hS : bS s) (hC : bC D c) (hW : wp q g n D p s) (ag0 : Int) (ag1 : Int) (ag2 : Int) (ag3 : Int) (ag4 : Int) (ag5 : Int) (ag6 : Int) (ag7 : Int) (b_ag0 : -2147483648 ≤ ag0 ∧ ag0 ≤ 2147483647) (b_ag1 : -2147483648 ≤ ag1 ∧ ag1 ≤ 2147483647) (b_ag2 : -2147483648 ≤ ag2 ∧ ag2 ≤ 2147483647) (b_ag3 : -2147483648 ≤ ag3 ∧ ag3 ≤ 2147483647) (b_ag4 : -2147483648 ≤ ag4 ∧ ag4 ≤ 2147483647) (b_ag5 : -2147483648 ≤ ag5 ∧ ag5 ≤ 2147483647) (b_ag6 : -2147483648 ≤ ag6 ∧ ag6 ≤ 2147483647) (b_ag7 : -2147483648 ≤ ag7 ∧ ag7 ≤ 2147483647) : tt Zi d 94 (0, [some (.inr (.inl 0)), some (.inl ag0), some (.inl ag1), some (.inl ag2), some (.inl ag3), some (.inl ag4), some (.inl ag5), some (.inl ag6), some (.inl ag7), none], [], n, D, s, p, c) (fun R H => (∃ r : Int, R = .inl (some (.inl r)) ∧ (0 ≤ r ∧ r ≤ 2) ∧ cW (q + 1) g H ∧ (dwP r ag0 ag1 ag2 ag3 ag4 ag5 ag6 ag7 (s 100) (s 101) (s 102) (s 103)))) := by
  refine tt_k 9 (S' := (14, [some (.inr (.inl 0)), some (.inl ag0), some (.inl ag1), some (.inl ag2), some (.inl ag3), some (.inl ag4), some (.inl ag5), some (.inl ag6), some (.inl ag7), none], [.inl ag7, .inl ag6, .inl ag5, .inl ag4, .inl ag3, .inl ag2, .inl ag1, .inl ag0, .inr (.inl 0)], n, D, s, p, c)) rfl ?_
  refine tt_cl (by omega) rfl (g_draw (Zi := Zi) (q := q) (n := n) (D := D) (s := s) (p := p) (c := c) (by omega) hz (by omega) hS hC hW ag0 ag1 ag2 ag3 ag4 ag5 ag6 ag7 (by omega) (by omega) (by omega) (by omega) (by omega) (by omega) (by omega) (by omega)) ?_
  rintro _ ⟨n1, D2, s3, p4, c5⟩ (⟨rfl, hY6, k7⟩ | ⟨rfl, hY8, k9⟩ | ⟨rfl, hY10, k11⟩)
  rotate_left
  · skip
    have hS3 : bS s3 := hY8.1
    have hC5 : bC D2 c5 := hY8.2.1
    have hW4 : wp _ _ n1 D2 p4 s3 := hY8.2.2
    show tt Zi d 94 (20, [some (.inr (.inl 0)), some (.inl ag0), some (.inl ag1), some (.inl ag2), some (.inl ag3), some (.inl ag4), some (.inl ag5), some (.inl ag6), some (.inl ag7), none], [.inr (.inl (47 + n1))], n1, D2, s3, p4, c5) _
    refine tt_k 2 (S' := (23, [some (.inr (.inl 0)), some (.inl ag0), some (.inl ag1), some (.inl ag2), some (.inl ag3), some (.inl ag4), some (.inl ag5), some (.inl ag6), some (.inl ag7), some (.inr (.inl (47 + n1)))], [.inl 1], n1, D2, s3, p4, c5)) rfl ?_
    exact tt_rti rfl rfl ⟨1, rfl, by omega, cW_mono (q := (q + 1)) (show cW (q + 1) g (n1, D2, s3, p4, c5) from ⟨hS3, hC5, hW4⟩) (by omega), by exact Or.inl ⟨rfl, k9⟩⟩
  · skip
    have hS3 : bS s3 := hY10.1
    have hC5 : bC D2 c5 := hY10.2.1
    have hW4 : wp _ _ n1 D2 p4 s3 := hY10.2.2
    show tt Zi d 94 (24, [some (.inr (.inl 0)), some (.inl ag0), some (.inl ag1), some (.inl ag2), some (.inl ag3), some (.inl ag4), some (.inl ag5), some (.inl ag6), some (.inl ag7), none], [.inr (.inl (47 + n1))], n1, D2, s3, p4, c5) _
    refine tt_k 2 (S' := (27, [some (.inr (.inl 0)), some (.inl ag0), some (.inl ag1), some (.inl ag2), some (.inl ag3), some (.inl ag4), some (.inl ag5), some (.inl ag6), some (.inl ag7), some (.inr (.inl (47 + n1)))], [.inl 2], n1, D2, s3, p4, c5)) rfl ?_
    exact tt_rti rfl rfl ⟨2, rfl, by omega, cW_mono (q := (q + 1)) (show cW (q + 1) g (n1, D2, s3, p4, c5) from ⟨hS3, hC5, hW4⟩) (by omega), by exact Or.inr (Or.inl ⟨rfl, k11.1, k11.2⟩)⟩
  have hS3 : bS s3 := hY6.1
  have hC5 : bC D2 c5 := hY6.2.1
  have hW4 : wp _ _ n1 D2 p4 s3 := hY6.2.2
  show tt Zi d 94 (17, [some (.inr (.inl 0)), some (.inl ag0), some (.inl ag1), some (.inl ag2), some (.inl ag3), some (.inl ag4), some (.inl ag5), some (.inl ag6), some (.inl ag7), none], [], n1, D2, s3, p4, c5) _
  refine tt_k 2 (S' := (29, [some (.inr (.inl 0)), some (.inl ag0), some (.inl ag1), some (.inl ag2), some (.inl ag3), some (.inl ag4), some (.inl ag5), some (.inl ag6), some (.inl ag7), none], [.inl 0], n1, D2, s3, p4, c5)) rfl ?_
  exact tt_rti rfl rfl ⟨0, rfl, by omega, cW_mono (q := (q + 1)) (show cW (q + 1) g (n1, D2, s3, p4, c5) from ⟨hS3, hC5, hW4⟩) (by omega), by exact Or.inr (Or.inr ⟨rfl, k7.1, k7.2⟩)⟩
set_option maxRecDepth 100000 in
set_option maxHeartbeats 4000000 in
theorem h_at {g : Nat → Int} {Zi : Nat → Option (Nat × (Nat → Int))} {d n q : Nat} {D : Nat → Nat × Nat} {s : Nat → Int} {p : Nat → Nat} {c : Nat → Nat → Int} (hd : 8 ≤ d) (hz : zk Zi) (hq : q + 16 ≤ 400000) (hS : bS s) (hC : bC D c) (hW : wp q g n D p s) (ag0 : Int) (ag1 : Int) (ag2 : Int) (b_ag0 : -2147483648 ≤ ag0 ∧ ag0 ≤ 2147483647) (b_ag1 : -2147483648 ≤ ag1 ∧ ag1 ≤ 2147483647) (b_ag2 : -2147483648 ≤ ag2 ∧ ag2 ≤ 2147483647) : tt Zi d 100 (0, [some (.inr (.inl 0)), some (.inl ag0), some (.inl ag1), some (.inl ag2), some (.inr (.inl 47)), none], [], n, D, s, p, c) (fun R H => (∃ r : Int, R = .inl (some (.inl r)) ∧ (0 ≤ r ∧ r ≤ 2) ∧ cW (q + 1) g H)) := by
  refine tt_k 6 (S' := (7, [some (.inr (.inl 0)), some (.inl ag0), some (.inl ag1), some (.inl ag2), some (.inr (.inl 47)), none], [.inl ag2, .inl ag1, .inl ag0, .inr (.inl 0), .inl 0, .inr (.inl 47)], n, D, s, p, c)) rfl ?_
  refine tt_cl (by omega) rfl (g_at (Zi := Zi) (q := q) (n := n) (D := D) (s := s) (p := p) (c := c) (by omega) hz (by omega) hS hC hW ag0 ag1 ag2 (by omega) (by omega) (by omega)) ?_
  rintro _ ⟨n1, D2, s3, p4, c5⟩ (⟨r7, rfl, b8, hY6⟩ | ⟨rfl, hY9⟩)
  rotate_left
  · skip
    have hS3 : bS s3 := hY9.1
    have hC5 : bC D2 c5 := hY9.2.1
    have hW4 : wp _ _ n1 D2 p4 s3 := hY9.2.2
    show tt Zi d 100 (15, [some (.inr (.inl 0)), some (.inl ag0), some (.inl ag1), some (.inl ag2), some (.inr (.inl 47)), none], [.inr (.inl (47 + n1))], n1, D2, s3, p4, c5) _
    refine tt_k 2 (S' := (18, [some (.inr (.inl 0)), some (.inl ag0), some (.inl ag1), some (.inl ag2), some (.inr (.inl 47)), some (.inr (.inl (47 + n1)))], [.inl 1], n1, D2, s3, p4, c5)) rfl ?_
    exact tt_rti rfl rfl ⟨1, rfl, by omega, cW_mono (q := (q + 1)) (show cW (q + 1) g (n1, D2, s3, p4, c5) from ⟨hS3, hC5, hW4⟩) (by omega)⟩
  have hS3 : bS s3 := hY6.1
  have hC5 : bC D2 c5 := hY6.2.1
  have hW4 : wp _ _ n1 D2 p4 s3 := hY6.2.2
  show tt Zi d 100 (10, [some (.inr (.inl 0)), some (.inl ag0), some (.inl ag1), some (.inl ag2), some (.inr (.inl 47)), none], [.inl r7, .inl 0, .inr (.inl 47)], n1, D2, s3, p4, c5) _
  refine tt_i2l (x := r7) rfl (by omega) ?_
  refine tt_lsb (a := 47) (i := 0) (x := r7) (m := 1) rfl rfl (by omega) hC5 ⟨rfl, rfl⟩ (by omega) ?_
  intro c10 hC10
  show tt Zi d 100 (12, [some (.inr (.inl 0)), some (.inl ag0), some (.inl ag1), some (.inl ag2), some (.inr (.inl 47)), none], [], n1, D2, s3, p4, c10) _
  refine tt_k 2 (S' := (20, [some (.inr (.inl 0)), some (.inl ag0), some (.inl ag1), some (.inl ag2), some (.inr (.inl 47)), none], [.inl 0], n1, D2, s3, p4, c10)) rfl ?_
  exact tt_rti rfl rfl ⟨0, rfl, by omega, cW_mono (q := (q + 1)) (show cW (q + 1) g (n1, D2, s3, p4, c10) from ⟨hS3, hC10, hW4⟩) (by omega)⟩
set_option maxRecDepth 100000 in
set_option maxHeartbeats 4000000 in
theorem h_measures {g : Nat → Int} {Zi : Nat → Option (Nat × (Nat → Int))} {d n q : Nat} {D : Nat → Nat × Nat} {s : Nat → Int} {p : Nat → Nat} {c : Nat → Nat → Int} (hd : 8 ≤ d) (hz : zk Zi) (hq : q + 16 ≤ 400000) (hS : bS s) (hC : bC D c) (hW : wp q g n D p s) (ag0 : Int) (ag1 : Int) (ag2 : Int) (ag3 : Int) (ag4 : Int) (b_ag0 : -2147483648 ≤ ag0 ∧ ag0 ≤ 2147483647) (b_ag1 : -2147483648 ≤ ag1 ∧ ag1 ≤ 2147483647) (b_ag2 : -2147483648 ≤ ag2 ∧ ag2 ≤ 2147483647) (b_ag3 : -2147483648 ≤ ag3 ∧ ag3 ≤ 2147483647) (b_ag4 : -2147483648 ≤ ag4 ∧ ag4 ≤ 2147483647) : tt Zi d 102 (0, [some (.inr (.inl 0)), some (.inl ag0), some (.inl ag1), some (.inl ag2), some (.inl ag3), some (.inl ag4), none], [], n, D, s, p, c) (fun R H => (∃ r : Int, R = .inl (some (.inl r)) ∧ (0 ≤ r ∧ r ≤ 2) ∧ cW (q + 1) g H ∧ (meP r ag0 ag1 ag2 ag3 ag4 (s 103)))) := by
  refine tt_k 6 (S' := (8, [some (.inr (.inl 0)), some (.inl ag0), some (.inl ag1), some (.inl ag2), some (.inl ag3), some (.inl ag4), none], [.inl ag4, .inl ag3, .inl ag2, .inl ag1, .inl ag0, .inr (.inl 0)], n, D, s, p, c)) rfl ?_
  refine tt_cl (by omega) rfl (g_measures (Zi := Zi) (q := q) (n := n) (D := D) (s := s) (p := p) (c := c) (by omega) hz (by omega) hS hC hW ag0 ag1 ag2 ag3 ag4 (by omega) (by omega) (by omega) (by omega) (by omega)) ?_
  rintro _ ⟨n1, D2, s3, p4, c5⟩ (⟨rfl, hY6, k7⟩ | ⟨rfl, hY8, k9⟩)
  rotate_left
  · skip
    have hS3 : bS s3 := hY8.1
    have hC5 : bC D2 c5 := hY8.2.1
    have hW4 : wp _ _ n1 D2 p4 s3 := hY8.2.2
    show tt Zi d 102 (14, [some (.inr (.inl 0)), some (.inl ag0), some (.inl ag1), some (.inl ag2), some (.inl ag3), some (.inl ag4), none], [.inr (.inl (47 + n1))], n1, D2, s3, p4, c5) _
    refine tt_k 2 (S' := (17, [some (.inr (.inl 0)), some (.inl ag0), some (.inl ag1), some (.inl ag2), some (.inl ag3), some (.inl ag4), some (.inr (.inl (47 + n1)))], [.inl 1], n1, D2, s3, p4, c5)) rfl ?_
    exact tt_rti rfl rfl ⟨1, rfl, by omega, cW_mono (q := (q + 1)) (show cW (q + 1) g (n1, D2, s3, p4, c5) from ⟨hS3, hC5, hW4⟩) (by omega), by exact Or.inr ⟨rfl, k9⟩⟩
  have hS3 : bS s3 := hY6.1
  have hC5 : bC D2 c5 := hY6.2.1
  have hW4 : wp _ _ n1 D2 p4 s3 := hY6.2.2
  show tt Zi d 102 (11, [some (.inr (.inl 0)), some (.inl ag0), some (.inl ag1), some (.inl ag2), some (.inl ag3), some (.inl ag4), none], [], n1, D2, s3, p4, c5) _
  refine tt_k 2 (S' := (19, [some (.inr (.inl 0)), some (.inl ag0), some (.inl ag1), some (.inl ag2), some (.inl ag3), some (.inl ag4), none], [.inl 0], n1, D2, s3, p4, c5)) rfl ?_
  exact tt_rti rfl rfl ⟨0, rfl, by omega, cW_mono (q := (q + 1)) (show cW (q + 1) g (n1, D2, s3, p4, c5) from ⟨hS3, hC5, hW4⟩) (by omega), by exact Or.inl ⟨rfl, k7⟩⟩
set_option maxRecDepth 100000 in
set_option maxHeartbeats 4000000 in
theorem h_pack {g : Nat → Int} {Zi : Nat → Option (Nat × (Nat → Int))} {d n q : Nat} {D : Nat → Nat × Nat} {s : Nat → Int} {p : Nat → Nat} {c : Nat → Nat → Int} (hd : 8 ≤ d) (hz : zk Zi) (hq : q + 16 ≤ 400000) (hS : bS s) (hC : bC D c) (hW : wp q g n D p s) (ag0 : Int) (b_ag0 : -2147483648 ≤ ag0 ∧ ag0 ≤ 2147483647) : tt Zi d 105 (0, [some (.inr (.inl 0)), some (.inl ag0), some (.inr (.inl 47)), none], [], n, D, s, p, c) (fun R H => (∃ r : Int, R = .inl (some (.inl r)) ∧ (0 ≤ r ∧ r ≤ 2) ∧ cW (q + 1) g H)) := by
  refine tt_k 4 (S' := (4, [some (.inr (.inl 0)), some (.inl ag0), some (.inr (.inl 47)), none], [.inl ag0, .inr (.inl 0), .inl 0, .inr (.inl 47)], n, D, s, p, c)) rfl ?_
  refine tt_cl (by omega) rfl (g_pack (Zi := Zi) (q := q) (n := n) (D := D) (s := s) (p := p) (c := c) (by omega) hz (by omega) hS hC hW ag0 (by omega)) ?_
  rintro _ ⟨n1, D2, s3, p4, c5⟩ (⟨r7, rfl, b8, hY6⟩ | ⟨rfl, hY9⟩)
  rotate_left
  · skip
    have hS3 : bS s3 := hY9.1
    have hC5 : bC D2 c5 := hY9.2.1
    have hW4 : wp _ _ n1 D2 p4 s3 := hY9.2.2
    show tt Zi d 105 (12, [some (.inr (.inl 0)), some (.inl ag0), some (.inr (.inl 47)), none], [.inr (.inl (47 + n1))], n1, D2, s3, p4, c5) _
    refine tt_k 2 (S' := (14, [some (.inr (.inl 0)), some (.inl ag0), some (.inr (.inl 47)), some (.inr (.inl (47 + n1)))], [.inl 1], n1, D2, s3, p4, c5)) rfl ?_
    exact tt_rti rfl rfl ⟨1, rfl, by omega, cW_mono (q := (q + 1)) (show cW (q + 1) g (n1, D2, s3, p4, c5) from ⟨hS3, hC5, hW4⟩) (by omega)⟩
  have hS3 : bS s3 := hY6.1
  have hC5 : bC D2 c5 := hY6.2.1
  have hW4 : wp _ _ n1 D2 p4 s3 := hY6.2.2
  show tt Zi d 105 (7, [some (.inr (.inl 0)), some (.inl ag0), some (.inr (.inl 47)), none], [.inl r7, .inl 0, .inr (.inl 47)], n1, D2, s3, p4, c5) _
  refine tt_i2l (x := r7) rfl (by omega) ?_
  refine tt_lsb (a := 47) (i := 0) (x := r7) (m := 1) rfl rfl (by omega) hC5 ⟨rfl, rfl⟩ (by omega) ?_
  intro c10 hC10
  show tt Zi d 105 (9, [some (.inr (.inl 0)), some (.inl ag0), some (.inr (.inl 47)), none], [], n1, D2, s3, p4, c10) _
  refine tt_k 2 (S' := (16, [some (.inr (.inl 0)), some (.inl ag0), some (.inr (.inl 47)), none], [.inl 0], n1, D2, s3, p4, c10)) rfl ?_
  exact tt_rti rfl rfl ⟨0, rfl, by omega, cW_mono (q := (q + 1)) (show cW (q + 1) g (n1, D2, s3, p4, c10) from ⟨hS3, hC10, hW4⟩) (by omega)⟩
set_option maxRecDepth 100000 in
set_option maxHeartbeats 4000000 in
theorem h_out {g : Nat → Int} {Zi : Nat → Option (Nat × (Nat → Int))} {d n q : Nat} {D : Nat → Nat × Nat} {s : Nat → Int} {p : Nat → Nat} {c : Nat → Nat → Int} (hd : 8 ≤ d) (hz : zk Zi) (hq : q + 16 ≤ 400000) (hS : bS s) (hC : bC D c) (hW : wp q g n D p s) (ag0 : Int) (b_ag0 : -2147483648 ≤ ag0 ∧ ag0 ≤ 2147483647) : tt Zi d 115 (0, [some (.inr (.inl 0)), some (.inl ag0), some (.inr (.inl 47)), none], [], n, D, s, p, c) (fun R H => (∃ r : Int, R = .inl (some (.inl r)) ∧ (0 ≤ r ∧ r ≤ 2) ∧ cW (q + 1) g H)) := by
  refine tt_k 4 (S' := (4, [some (.inr (.inl 0)), some (.inl ag0), some (.inr (.inl 47)), none], [.inl ag0, .inr (.inl 0), .inl 0, .inr (.inl 47)], n, D, s, p, c)) rfl ?_
  refine tt_cl (by omega) rfl (g_out (Zi := Zi) (q := q) (n := n) (D := D) (s := s) (p := p) (c := c) (by omega) hz (by omega) hS hC hW ag0 (by omega)) ?_
  rintro _ ⟨n1, D2, s3, p4, c5⟩ (⟨r7, rfl, b8, hY6⟩ | ⟨rfl, hY9⟩)
  rotate_left
  · skip
    have hS3 : bS s3 := hY9.1
    have hC5 : bC D2 c5 := hY9.2.1
    have hW4 : wp _ _ n1 D2 p4 s3 := hY9.2.2
    show tt Zi d 115 (12, [some (.inr (.inl 0)), some (.inl ag0), some (.inr (.inl 47)), none], [.inr (.inl (47 + n1))], n1, D2, s3, p4, c5) _
    refine tt_k 2 (S' := (14, [some (.inr (.inl 0)), some (.inl ag0), some (.inr (.inl 47)), some (.inr (.inl (47 + n1)))], [.inl 1], n1, D2, s3, p4, c5)) rfl ?_
    exact tt_rti rfl rfl ⟨1, rfl, by omega, cW_mono (q := (q + 1)) (show cW (q + 1) g (n1, D2, s3, p4, c5) from ⟨hS3, hC5, hW4⟩) (by omega)⟩
  have hS3 : bS s3 := hY6.1
  have hC5 : bC D2 c5 := hY6.2.1
  have hW4 : wp _ _ n1 D2 p4 s3 := hY6.2.2
  show tt Zi d 115 (7, [some (.inr (.inl 0)), some (.inl ag0), some (.inr (.inl 47)), none], [.inl r7, .inl 0, .inr (.inl 47)], n1, D2, s3, p4, c5) _
  refine tt_i2l (x := r7) rfl (by omega) ?_
  refine tt_lsb (a := 47) (i := 0) (x := r7) (m := 1) rfl rfl (by omega) hC5 ⟨rfl, rfl⟩ (by omega) ?_
  intro c10 hC10
  show tt Zi d 115 (9, [some (.inr (.inl 0)), some (.inl ag0), some (.inr (.inl 47)), none], [], n1, D2, s3, p4, c10) _
  refine tt_k 2 (S' := (16, [some (.inr (.inl 0)), some (.inl ag0), some (.inr (.inl 47)), none], [.inl 0], n1, D2, s3, p4, c10)) rfl ?_
  exact tt_rti rfl rfl ⟨0, rfl, by omega, cW_mono (q := (q + 1)) (show cW (q + 1) g (n1, D2, s3, p4, c10) from ⟨hS3, hC10, hW4⟩) (by omega)⟩
set_option maxRecDepth 100000 in
set_option maxHeartbeats 4000000 in
theorem h_feed {g : Nat → Int} {Zi : Nat → Option (Nat × (Nat → Int))} {d n q : Nat} {D : Nat → Nat × Nat} {s : Nat → Int} {p : Nat → Nat} {c : Nat → Nat → Int} (hd : 8 ≤ d) (hz : zk Zi) (hq : q + 16 ≤ 400000) (hS : bS s) (hC : bC D c) (hW : wp q g n D p s) (ag0 : Int) (ag1 : Int) (ag2 : Int) (ag3 : Int) (ag4 : Int) (b_ag0 : -2147483648 ≤ ag0 ∧ ag0 ≤ 2147483647) (b_ag1 : -2147483648 ≤ ag1 ∧ ag1 ≤ 2147483647) (b_ag2 : -2147483648 ≤ ag2 ∧ ag2 ≤ 2147483647) (b_ag3 : -2147483648 ≤ ag3 ∧ ag3 ≤ 2147483647) (b_ag4 : -2147483648 ≤ ag4 ∧ ag4 ≤ 2147483647) : tt Zi d 117 (0, [some (.inr (.inl 0)), some (.inl ag0), some (.inl ag1), some (.inl ag2), some (.inl ag3), some (.inl ag4), some (.inr (.inl 47)), none], [], n, D, s, p, c) (fun R H => (∃ r : Int, R = .inl (some (.inl r)) ∧ (0 ≤ r ∧ r ≤ 2) ∧ cW (q + 1) g H)) := by
  refine tt_k 8 (S' := (11, [some (.inr (.inl 0)), some (.inl ag0), some (.inl ag1), some (.inl ag2), some (.inl ag3), some (.inl ag4), some (.inr (.inl 47)), none], [.inl ag4, .inl ag3, .inl ag2, .inl ag1, .inl ag0, .inr (.inl 0), .inl 0, .inr (.inl 47)], n, D, s, p, c)) rfl ?_
  refine tt_cl (by omega) rfl (g_feed (Zi := Zi) (q := q) (n := n) (D := D) (s := s) (p := p) (c := c) (by omega) hz (by omega) hS hC hW ag0 ag1 ag2 ag3 ag4 (by omega) (by omega) (by omega) (by omega) (by omega)) ?_
  rintro _ ⟨n1, D2, s3, p4, c5⟩ (⟨r7, rfl, b8, hY6⟩ | ⟨rfl, hY9⟩)
  rotate_left
  · skip
    have hS3 : bS s3 := hY9.1
    have hC5 : bC D2 c5 := hY9.2.1
    have hW4 : wp _ _ n1 D2 p4 s3 := hY9.2.2
    show tt Zi d 117 (19, [some (.inr (.inl 0)), some (.inl ag0), some (.inl ag1), some (.inl ag2), some (.inl ag3), some (.inl ag4), some (.inr (.inl 47)), none], [.inr (.inl (47 + n1))], n1, D2, s3, p4, c5) _
    refine tt_k 2 (S' := (22, [some (.inr (.inl 0)), some (.inl ag0), some (.inl ag1), some (.inl ag2), some (.inl ag3), some (.inl ag4), some (.inr (.inl 47)), some (.inr (.inl (47 + n1)))], [.inl 1], n1, D2, s3, p4, c5)) rfl ?_
    exact tt_rti rfl rfl ⟨1, rfl, by omega, cW_mono (q := (q + 1)) (show cW (q + 1) g (n1, D2, s3, p4, c5) from ⟨hS3, hC5, hW4⟩) (by omega)⟩
  have hS3 : bS s3 := hY6.1
  have hC5 : bC D2 c5 := hY6.2.1
  have hW4 : wp _ _ n1 D2 p4 s3 := hY6.2.2
  show tt Zi d 117 (14, [some (.inr (.inl 0)), some (.inl ag0), some (.inl ag1), some (.inl ag2), some (.inl ag3), some (.inl ag4), some (.inr (.inl 47)), none], [.inl r7, .inl 0, .inr (.inl 47)], n1, D2, s3, p4, c5) _
  refine tt_i2l (x := r7) rfl (by omega) ?_
  refine tt_lsb (a := 47) (i := 0) (x := r7) (m := 1) rfl rfl (by omega) hC5 ⟨rfl, rfl⟩ (by omega) ?_
  intro c10 hC10
  show tt Zi d 117 (16, [some (.inr (.inl 0)), some (.inl ag0), some (.inl ag1), some (.inl ag2), some (.inl ag3), some (.inl ag4), some (.inr (.inl 47)), none], [], n1, D2, s3, p4, c10) _
  refine tt_k 2 (S' := (24, [some (.inr (.inl 0)), some (.inl ag0), some (.inl ag1), some (.inl ag2), some (.inl ag3), some (.inl ag4), some (.inr (.inl 47)), none], [.inl 0], n1, D2, s3, p4, c10)) rfl ?_
  exact tt_rti rfl rfl ⟨0, rfl, by omega, cW_mono (q := (q + 1)) (show cW (q + 1) g (n1, D2, s3, p4, c10) from ⟨hS3, hC10, hW4⟩) (by omega)⟩
set_option maxRecDepth 100000 in
set_option maxHeartbeats 4000000 in
theorem h_end {g : Nat → Int} {Zi : Nat → Option (Nat × (Nat → Int))} {d n q : Nat} {D : Nat → Nat × Nat} {s : Nat → Int} {p : Nat → Nat} {c : Nat → Nat → Int} (hd : 8 ≤ d) (hz : zk Zi) (hq : q + 16 ≤ 400000) (hS : bS s) (hC : bC D c) (hW : wp q g n D p s) (ag0 : Int) (b_ag0 : -2147483648 ≤ ag0 ∧ ag0 ≤ 2147483647) : tt Zi d 120 (0, [some (.inr (.inl 0)), some (.inl ag0), none], [], n, D, s, p, c) (fun R H => (∃ r : Int, R = .inl (some (.inl r)) ∧ (0 ≤ r ∧ r ≤ 2) ∧ cW (q + 1) g H)) := by
  refine tt_k 2 (S' := (2, [some (.inr (.inl 0)), some (.inl ag0), none], [.inl ag0, .inr (.inl 0)], n, D, s, p, c)) rfl ?_
  refine tt_cl (by omega) rfl (g_end (Zi := Zi) (q := q) (n := n) (D := D) (s := s) (p := p) (c := c) (by omega) hz (by omega) hS hC hW ag0 (by omega)) ?_
  rintro _ ⟨n1, D2, s3, p4, c5⟩ (⟨rfl, hY6⟩ | ⟨rfl, hY7⟩)
  rotate_left
  · skip
    have hS3 : bS s3 := hY7.1
    have hC5 : bC D2 c5 := hY7.2.1
    have hW4 : wp _ _ n1 D2 p4 s3 := hY7.2.2
    show tt Zi d 120 (8, [some (.inr (.inl 0)), some (.inl ag0), none], [.inr (.inl (47 + n1))], n1, D2, s3, p4, c5) _
    refine tt_k 2 (S' := (10, [some (.inr (.inl 0)), some (.inl ag0), some (.inr (.inl (47 + n1)))], [.inl 1], n1, D2, s3, p4, c5)) rfl ?_
    exact tt_rti rfl rfl ⟨1, rfl, by omega, cW_mono (q := (q + 1)) (show cW (q + 1) g (n1, D2, s3, p4, c5) from ⟨hS3, hC5, hW4⟩) (by omega)⟩
  have hS3 : bS s3 := hY6.1
  have hC5 : bC D2 c5 := hY6.2.1
  have hW4 : wp _ _ n1 D2 p4 s3 := hY6.2.2
  show tt Zi d 120 (5, [some (.inr (.inl 0)), some (.inl ag0), none], [], n1, D2, s3, p4, c5) _
  refine tt_k 2 (S' := (12, [some (.inr (.inl 0)), some (.inl ag0), none], [.inl 0], n1, D2, s3, p4, c5)) rfl ?_
  exact tt_rti rfl rfl ⟨0, rfl, by omega, cW_mono (q := (q + 1)) (show cW (q + 1) g (n1, D2, s3, p4, c5) from ⟨hS3, hC5, hW4⟩) (by omega)⟩
set_option maxRecDepth 100000 in
set_option maxHeartbeats 4000000 in
theorem h_change {g : Nat → Int} {Zi : Nat → Option (Nat × (Nat → Int))} {d n q : Nat} {D : Nat → Nat × Nat} {s : Nat → Int} {p : Nat → Nat} {c : Nat → Nat → Int} (hd : 8 ≤ d) (hz : zk Zi) (hq : q + 16 ≤ 400000) (hS : bS s) (hC : bC D c) (hW : wp q g n D p s) (ag0 : Int) (ag1 : Int) (b_ag0 : -2147483648 ≤ ag0 ∧ ag0 ≤ 2147483647) (b_ag1 : -2147483648 ≤ ag1 ∧ ag1 ≤ 2147483647) : tt Zi d 122 (0, [some (.inr (.inl 0)), some (.inl ag0), some (.inl ag1), some (.inr (.inl 47)), none], [], n, D, s, p, c) (fun R H => (∃ r : Int, R = .inl (some (.inl r)) ∧ (0 ≤ r ∧ r ≤ 2) ∧ cW (q + 1) g H)) := by
  refine tt_k 5 (S' := (5, [some (.inr (.inl 0)), some (.inl ag0), some (.inl ag1), some (.inr (.inl 47)), none], [.inl ag1, .inl ag0, .inr (.inl 0), .inl 0, .inr (.inl 47)], n, D, s, p, c)) rfl ?_
  refine tt_cl (by omega) rfl (g_change (Zi := Zi) (q := q) (n := n) (D := D) (s := s) (p := p) (c := c) (by omega) hz (by omega) hS hC hW ag0 ag1 (by omega) (by omega)) ?_
  rintro _ ⟨n1, D2, s3, p4, c5⟩ (⟨r7, rfl, b8, hY6⟩ | ⟨rfl, hY9⟩ | ⟨rfl, hY10⟩)
  rotate_left
  · skip
    have hS3 : bS s3 := hY9.1
    have hC5 : bC D2 c5 := hY9.2.1
    have hW4 : wp _ _ n1 D2 p4 s3 := hY9.2.2
    show tt Zi d 122 (13, [some (.inr (.inl 0)), some (.inl ag0), some (.inl ag1), some (.inr (.inl 47)), none], [.inr (.inl (47 + n1))], n1, D2, s3, p4, c5) _
    refine tt_k 2 (S' := (16, [some (.inr (.inl 0)), some (.inl ag0), some (.inl ag1), some (.inr (.inl 47)), some (.inr (.inl (47 + n1)))], [.inl 1], n1, D2, s3, p4, c5)) rfl ?_
    exact tt_rti rfl rfl ⟨1, rfl, by omega, cW_mono (q := (q + 1)) (show cW (q + 1) g (n1, D2, s3, p4, c5) from ⟨hS3, hC5, hW4⟩) (by omega)⟩
  · skip
    have hS3 : bS s3 := hY10.1
    have hC5 : bC D2 c5 := hY10.2.1
    have hW4 : wp _ _ n1 D2 p4 s3 := hY10.2.2
    show tt Zi d 122 (17, [some (.inr (.inl 0)), some (.inl ag0), some (.inl ag1), some (.inr (.inl 47)), none], [.inr (.inl (47 + n1))], n1, D2, s3, p4, c5) _
    refine tt_k 2 (S' := (20, [some (.inr (.inl 0)), some (.inl ag0), some (.inl ag1), some (.inr (.inl 47)), some (.inr (.inl (47 + n1)))], [.inl 2], n1, D2, s3, p4, c5)) rfl ?_
    exact tt_rti rfl rfl ⟨2, rfl, by omega, cW_mono (q := (q + 1)) (show cW (q + 1) g (n1, D2, s3, p4, c5) from ⟨hS3, hC5, hW4⟩) (by omega)⟩
  have hS3 : bS s3 := hY6.1
  have hC5 : bC D2 c5 := hY6.2.1
  have hW4 : wp _ _ n1 D2 p4 s3 := hY6.2.2
  show tt Zi d 122 (8, [some (.inr (.inl 0)), some (.inl ag0), some (.inl ag1), some (.inr (.inl 47)), none], [.inl r7, .inl 0, .inr (.inl 47)], n1, D2, s3, p4, c5) _
  refine tt_i2l (x := r7) rfl (by omega) ?_
  refine tt_lsb (a := 47) (i := 0) (x := r7) (m := 1) rfl rfl (by omega) hC5 ⟨rfl, rfl⟩ (by omega) ?_
  intro c11 hC11
  show tt Zi d 122 (10, [some (.inr (.inl 0)), some (.inl ag0), some (.inl ag1), some (.inr (.inl 47)), none], [], n1, D2, s3, p4, c11) _
  refine tt_k 2 (S' := (22, [some (.inr (.inl 0)), some (.inl ag0), some (.inl ag1), some (.inr (.inl 47)), none], [.inl 0], n1, D2, s3, p4, c11)) rfl ?_
  exact tt_rti rfl rfl ⟨0, rfl, by omega, cW_mono (q := (q + 1)) (show cW (q + 1) g (n1, D2, s3, p4, c11) from ⟨hS3, hC11, hW4⟩) (by omega)⟩
set_option maxRecDepth 100000 in
set_option maxHeartbeats 4000000 in
theorem h_turn {g : Nat → Int} {Zi : Nat → Option (Nat × (Nat → Int))} {d n q : Nat} {D : Nat → Nat × Nat} {s : Nat → Int} {p : Nat → Nat} {c : Nat → Nat → Int} (hd : 8 ≤ d) (hz : zk Zi) (hq : q + 16 ≤ 400000) (hS : bS s) (hC : bC D c) (hW : wp q g n D p s)  : tt Zi d 124 (0, [some (.inr (.inl 0)), some (.inr (.inl 47)), none], [], n, D, s, p, c) (fun R H => (∃ r : Int, R = .inl (some (.inl r)) ∧ (0 ≤ r ∧ r ≤ 2) ∧ cW (q + 1) g H)) := by
  refine tt_k 3 (S' := (3, [some (.inr (.inl 0)), some (.inr (.inl 47)), none], [.inr (.inl 0), .inl 0, .inr (.inl 47)], n, D, s, p, c)) rfl ?_
  refine tt_cl (by omega) rfl (g_turn (Zi := Zi) (q := q) (n := n) (D := D) (s := s) (p := p) (c := c) (by omega) hz (by omega) hS hC hW ) ?_
  rintro _ ⟨n1, D2, s3, p4, c5⟩ (⟨r7, rfl, b8, hY6⟩ | ⟨rfl, hY9⟩)
  rotate_left
  · skip
    have hS3 : bS s3 := hY9.1
    have hC5 : bC D2 c5 := hY9.2.1
    have hW4 : wp _ _ n1 D2 p4 s3 := hY9.2.2
    show tt Zi d 124 (11, [some (.inr (.inl 0)), some (.inr (.inl 47)), none], [.inr (.inl (47 + n1))], n1, D2, s3, p4, c5) _
    refine tt_k 2 (S' := (13, [some (.inr (.inl 0)), some (.inr (.inl 47)), some (.inr (.inl (47 + n1)))], [.inl 1], n1, D2, s3, p4, c5)) rfl ?_
    exact tt_rti rfl rfl ⟨1, rfl, by omega, cW_mono (q := (q + 1)) (show cW (q + 1) g (n1, D2, s3, p4, c5) from ⟨hS3, hC5, hW4⟩) (by omega)⟩
  have hS3 : bS s3 := hY6.1
  have hC5 : bC D2 c5 := hY6.2.1
  have hW4 : wp _ _ n1 D2 p4 s3 := hY6.2.2
  show tt Zi d 124 (6, [some (.inr (.inl 0)), some (.inr (.inl 47)), none], [.inl r7, .inl 0, .inr (.inl 47)], n1, D2, s3, p4, c5) _
  refine tt_i2l (x := r7) rfl (by omega) ?_
  refine tt_lsb (a := 47) (i := 0) (x := r7) (m := 1) rfl rfl (by omega) hC5 ⟨rfl, rfl⟩ (by omega) ?_
  intro c10 hC10
  show tt Zi d 124 (8, [some (.inr (.inl 0)), some (.inr (.inl 47)), none], [], n1, D2, s3, p4, c10) _
  refine tt_k 2 (S' := (15, [some (.inr (.inl 0)), some (.inr (.inl 47)), none], [.inl 0], n1, D2, s3, p4, c10)) rfl ?_
  exact tt_rti rfl rfl ⟨0, rfl, by omega, cW_mono (q := (q + 1)) (show cW (q + 1) g (n1, D2, s3, p4, c10) from ⟨hS3, hC10, hW4⟩) (by omega)⟩
set_option maxRecDepth 100000 in
set_option maxHeartbeats 4000000 in
theorem h_about {g : Nat → Int} {Zi : Nat → Option (Nat × (Nat → Int))} {d n q : Nat} {D : Nat → Nat × Nat} {s : Nat → Int} {p : Nat → Nat} {c : Nat → Nat → Int} (hd : 8 ≤ d) (hz : zk Zi) (hq : q + 16 ≤ 400000) (hS : bS s) (hC : bC D c) (hW : wp q g n D p s) (ag0 : Int) (b_ag0 : -2147483648 ≤ ag0 ∧ ag0 ≤ 2147483647) : tt Zi d 127 (0, [some (.inr (.inl 0)), some (.inl ag0), some (.inr (.inl 47)), none], [], n, D, s, p, c) (fun R H => (∃ r : Int, R = .inl (some (.inl r)) ∧ (0 ≤ r ∧ r ≤ 2) ∧ cW (q + 1) g H)) := by
  refine tt_k 4 (S' := (4, [some (.inr (.inl 0)), some (.inl ag0), some (.inr (.inl 47)), none], [.inl ag0, .inr (.inl 0), .inl 0, .inr (.inl 47)], n, D, s, p, c)) rfl ?_
  refine tt_cl (by omega) rfl (g_about (Zi := Zi) (q := q) (n := n) (D := D) (s := s) (p := p) (c := c) (by omega) hz (by omega) hS hC hW ag0 (by omega)) ?_
  rintro _ ⟨n1, D2, s3, p4, c5⟩ (⟨r7, rfl, b8, hY6⟩ | ⟨rfl, hY9⟩ | ⟨rfl, hY10⟩)
  rotate_left
  · skip
    have hS3 : bS s3 := hY9.1
    have hC5 : bC D2 c5 := hY9.2.1
    have hW4 : wp _ _ n1 D2 p4 s3 := hY9.2.2
    show tt Zi d 127 (12, [some (.inr (.inl 0)), some (.inl ag0), some (.inr (.inl 47)), none], [.inr (.inl (47 + n1))], n1, D2, s3, p4, c5) _
    refine tt_k 2 (S' := (14, [some (.inr (.inl 0)), some (.inl ag0), some (.inr (.inl 47)), some (.inr (.inl (47 + n1)))], [.inl 1], n1, D2, s3, p4, c5)) rfl ?_
    exact tt_rti rfl rfl ⟨1, rfl, by omega, cW_mono (q := (q + 1)) (show cW (q + 1) g (n1, D2, s3, p4, c5) from ⟨hS3, hC5, hW4⟩) (by omega)⟩
  · skip
    have hS3 : bS s3 := hY10.1
    have hC5 : bC D2 c5 := hY10.2.1
    have hW4 : wp _ _ n1 D2 p4 s3 := hY10.2.2
    show tt Zi d 127 (15, [some (.inr (.inl 0)), some (.inl ag0), some (.inr (.inl 47)), none], [.inr (.inl (47 + n1))], n1, D2, s3, p4, c5) _
    refine tt_k 2 (S' := (17, [some (.inr (.inl 0)), some (.inl ag0), some (.inr (.inl 47)), some (.inr (.inl (47 + n1)))], [.inl 2], n1, D2, s3, p4, c5)) rfl ?_
    exact tt_rti rfl rfl ⟨2, rfl, by omega, cW_mono (q := (q + 1)) (show cW (q + 1) g (n1, D2, s3, p4, c5) from ⟨hS3, hC5, hW4⟩) (by omega)⟩
  have hS3 : bS s3 := hY6.1
  have hC5 : bC D2 c5 := hY6.2.1
  have hW4 : wp _ _ n1 D2 p4 s3 := hY6.2.2
  show tt Zi d 127 (7, [some (.inr (.inl 0)), some (.inl ag0), some (.inr (.inl 47)), none], [.inl r7, .inl 0, .inr (.inl 47)], n1, D2, s3, p4, c5) _
  refine tt_i2l (x := r7) rfl (by omega) ?_
  refine tt_lsb (a := 47) (i := 0) (x := r7) (m := 1) rfl rfl (by omega) hC5 ⟨rfl, rfl⟩ (by omega) ?_
  intro c11 hC11
  show tt Zi d 127 (9, [some (.inr (.inl 0)), some (.inl ag0), some (.inr (.inl 47)), none], [], n1, D2, s3, p4, c11) _
  refine tt_k 2 (S' := (19, [some (.inr (.inl 0)), some (.inl ag0), some (.inr (.inl 47)), none], [.inl 0], n1, D2, s3, p4, c11)) rfl ?_
  exact tt_rti rfl rfl ⟨0, rfl, by omega, cW_mono (q := (q + 1)) (show cW (q + 1) g (n1, D2, s3, p4, c11) from ⟨hS3, hC11, hW4⟩) (by omega)⟩
set_option maxRecDepth 100000 in
set_option maxHeartbeats 4000000 in
theorem h_sample {g : Nat → Int} {Zi : Nat → Option (Nat × (Nat → Int))} {d n q : Nat} {D : Nat → Nat × Nat} {s : Nat → Int} {p : Nat → Nat} {c : Nat → Nat → Int} (hd : 8 ≤ d) (hz : zk Zi) (hq : q + 16 ≤ 400000) (hS : bS s) (hC : bC D c) (hW : wp q g n D p s) (ag0 : Int) (ag1 : Int) (ag2 : Int) (b_ag0 : -2147483648 ≤ ag0 ∧ ag0 ≤ 2147483647) (b_ag1 : -2147483648 ≤ ag1 ∧ ag1 ≤ 2147483647) (b_ag2 : -2147483648 ≤ ag2 ∧ ag2 ≤ 2147483647) : tt Zi d 129 (0, [some (.inr (.inl 0)), some (.inl ag0), some (.inl ag1), some (.inl ag2), some (.inr (.inl 47)), none], [], n, D, s, p, c) (fun R H => (∃ r : Int, R = .inl (some (.inl r)) ∧ (0 ≤ r ∧ r ≤ 2) ∧ cW (q + 1) g H)) := by
  refine tt_k 6 (S' := (7, [some (.inr (.inl 0)), some (.inl ag0), some (.inl ag1), some (.inl ag2), some (.inr (.inl 47)), none], [.inl ag2, .inl ag1, .inl ag0, .inr (.inl 0), .inl 0, .inr (.inl 47)], n, D, s, p, c)) rfl ?_
  refine tt_cl (by omega) rfl (g_sample (Zi := Zi) (q := q) (n := n) (D := D) (s := s) (p := p) (c := c) (by omega) hz (by omega) hS hC hW ag0 ag1 ag2 (by omega) (by omega) (by omega)) ?_
  rintro _ ⟨n1, D2, s3, p4, c5⟩ (⟨r7, rfl, b8, hY6⟩ | ⟨rfl, hY9⟩ | ⟨rfl, hY10⟩)
  rotate_left
  · skip
    have hS3 : bS s3 := hY9.1
    have hC5 : bC D2 c5 := hY9.2.1
    have hW4 : wp _ _ n1 D2 p4 s3 := hY9.2.2
    show tt Zi d 129 (15, [some (.inr (.inl 0)), some (.inl ag0), some (.inl ag1), some (.inl ag2), some (.inr (.inl 47)), none], [.inr (.inl (47 + n1))], n1, D2, s3, p4, c5) _
    refine tt_k 2 (S' := (18, [some (.inr (.inl 0)), some (.inl ag0), some (.inl ag1), some (.inl ag2), some (.inr (.inl 47)), some (.inr (.inl (47 + n1)))], [.inl 1], n1, D2, s3, p4, c5)) rfl ?_
    exact tt_rti rfl rfl ⟨1, rfl, by omega, cW_mono (q := (q + 1)) (show cW (q + 1) g (n1, D2, s3, p4, c5) from ⟨hS3, hC5, hW4⟩) (by omega)⟩
  · skip
    have hS3 : bS s3 := hY10.1
    have hC5 : bC D2 c5 := hY10.2.1
    have hW4 : wp _ _ n1 D2 p4 s3 := hY10.2.2
    show tt Zi d 129 (19, [some (.inr (.inl 0)), some (.inl ag0), some (.inl ag1), some (.inl ag2), some (.inr (.inl 47)), none], [.inr (.inl (47 + n1))], n1, D2, s3, p4, c5) _
    refine tt_k 2 (S' := (22, [some (.inr (.inl 0)), some (.inl ag0), some (.inl ag1), some (.inl ag2), some (.inr (.inl 47)), some (.inr (.inl (47 + n1)))], [.inl 2], n1, D2, s3, p4, c5)) rfl ?_
    exact tt_rti rfl rfl ⟨2, rfl, by omega, cW_mono (q := (q + 1)) (show cW (q + 1) g (n1, D2, s3, p4, c5) from ⟨hS3, hC5, hW4⟩) (by omega)⟩
  have hS3 : bS s3 := hY6.1
  have hC5 : bC D2 c5 := hY6.2.1
  have hW4 : wp _ _ n1 D2 p4 s3 := hY6.2.2
  show tt Zi d 129 (10, [some (.inr (.inl 0)), some (.inl ag0), some (.inl ag1), some (.inl ag2), some (.inr (.inl 47)), none], [.inl r7, .inl 0, .inr (.inl 47)], n1, D2, s3, p4, c5) _
  refine tt_i2l (x := r7) rfl (by omega) ?_
  refine tt_lsb (a := 47) (i := 0) (x := r7) (m := 1) rfl rfl (by omega) hC5 ⟨rfl, rfl⟩ (by omega) ?_
  intro c11 hC11
  show tt Zi d 129 (12, [some (.inr (.inl 0)), some (.inl ag0), some (.inl ag1), some (.inl ag2), some (.inr (.inl 47)), none], [], n1, D2, s3, p4, c11) _
  refine tt_k 2 (S' := (24, [some (.inr (.inl 0)), some (.inl ag0), some (.inl ag1), some (.inl ag2), some (.inr (.inl 47)), none], [.inl 0], n1, D2, s3, p4, c11)) rfl ?_
  exact tt_rti rfl rfl ⟨0, rfl, by omega, cW_mono (q := (q + 1)) (show cW (q + 1) g (n1, D2, s3, p4, c11) from ⟨hS3, hC11, hW4⟩) (by omega)⟩
set_option maxRecDepth 100000 in
set_option maxHeartbeats 4000000 in
theorem h_learned {g : Nat → Int} {Zi : Nat → Option (Nat × (Nat → Int))} {d n q : Nat} {D : Nat → Nat × Nat} {s : Nat → Int} {p : Nat → Nat} {c : Nat → Nat → Int} (hd : 8 ≤ d) (hz : zk Zi) (hq : q + 16 ≤ 400000) (hS : bS s) (hC : bC D c) (hW : wp q g n D p s) (ag0 : Int) (ag1 : Int) (b_ag0 : -2147483648 ≤ ag0 ∧ ag0 ≤ 2147483647) (b_ag1 : -2147483648 ≤ ag1 ∧ ag1 ≤ 2147483647) : tt Zi d 131 (0, [some (.inr (.inl 0)), some (.inl ag0), some (.inl ag1), some (.inr (.inl 47)), none], [], n, D, s, p, c) (fun R H => (∃ r : Int, R = .inl (some (.inl r)) ∧ (0 ≤ r ∧ r ≤ 2) ∧ cW (q + 1) g H)) := by
  refine tt_k 5 (S' := (5, [some (.inr (.inl 0)), some (.inl ag0), some (.inl ag1), some (.inr (.inl 47)), none], [.inl ag1, .inl ag0, .inr (.inl 0), .inl 0, .inr (.inl 47)], n, D, s, p, c)) rfl ?_
  refine tt_cl (by omega) rfl (g_learned (Zi := Zi) (q := q) (n := n) (D := D) (s := s) (p := p) (c := c) (by omega) hz (by omega) hS hC hW ag0 ag1 (by omega) (by omega)) ?_
  rintro _ ⟨n1, D2, s3, p4, c5⟩ (⟨r7, rfl, b8, hY6⟩ | ⟨rfl, hY9⟩ | ⟨rfl, hY10⟩)
  rotate_left
  · skip
    have hS3 : bS s3 := hY9.1
    have hC5 : bC D2 c5 := hY9.2.1
    have hW4 : wp _ _ n1 D2 p4 s3 := hY9.2.2
    show tt Zi d 131 (13, [some (.inr (.inl 0)), some (.inl ag0), some (.inl ag1), some (.inr (.inl 47)), none], [.inr (.inl (47 + n1))], n1, D2, s3, p4, c5) _
    refine tt_k 2 (S' := (16, [some (.inr (.inl 0)), some (.inl ag0), some (.inl ag1), some (.inr (.inl 47)), some (.inr (.inl (47 + n1)))], [.inl 1], n1, D2, s3, p4, c5)) rfl ?_
    exact tt_rti rfl rfl ⟨1, rfl, by omega, cW_mono (q := (q + 1)) (show cW (q + 1) g (n1, D2, s3, p4, c5) from ⟨hS3, hC5, hW4⟩) (by omega)⟩
  · skip
    have hS3 : bS s3 := hY10.1
    have hC5 : bC D2 c5 := hY10.2.1
    have hW4 : wp _ _ n1 D2 p4 s3 := hY10.2.2
    show tt Zi d 131 (17, [some (.inr (.inl 0)), some (.inl ag0), some (.inl ag1), some (.inr (.inl 47)), none], [.inr (.inl (47 + n1))], n1, D2, s3, p4, c5) _
    refine tt_k 2 (S' := (20, [some (.inr (.inl 0)), some (.inl ag0), some (.inl ag1), some (.inr (.inl 47)), some (.inr (.inl (47 + n1)))], [.inl 2], n1, D2, s3, p4, c5)) rfl ?_
    exact tt_rti rfl rfl ⟨2, rfl, by omega, cW_mono (q := (q + 1)) (show cW (q + 1) g (n1, D2, s3, p4, c5) from ⟨hS3, hC5, hW4⟩) (by omega)⟩
  have hS3 : bS s3 := hY6.1
  have hC5 : bC D2 c5 := hY6.2.1
  have hW4 : wp _ _ n1 D2 p4 s3 := hY6.2.2
  show tt Zi d 131 (8, [some (.inr (.inl 0)), some (.inl ag0), some (.inl ag1), some (.inr (.inl 47)), none], [.inl r7, .inl 0, .inr (.inl 47)], n1, D2, s3, p4, c5) _
  refine tt_i2l (x := r7) rfl (by omega) ?_
  refine tt_lsb (a := 47) (i := 0) (x := r7) (m := 1) rfl rfl (by omega) hC5 ⟨rfl, rfl⟩ (by omega) ?_
  intro c11 hC11
  show tt Zi d 131 (10, [some (.inr (.inl 0)), some (.inl ag0), some (.inl ag1), some (.inr (.inl 47)), none], [], n1, D2, s3, p4, c11) _
  refine tt_k 2 (S' := (22, [some (.inr (.inl 0)), some (.inl ag0), some (.inl ag1), some (.inr (.inl 47)), none], [.inl 0], n1, D2, s3, p4, c11)) rfl ?_
  exact tt_rti rfl rfl ⟨0, rfl, by omega, cW_mono (q := (q + 1)) (show cW (q + 1) g (n1, D2, s3, p4, c11) from ⟨hS3, hC11, hW4⟩) (by omega)⟩
