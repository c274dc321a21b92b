/-! the class reads a sample, a stop, a run, exactly -/
def uI (A : TN) (ro : Int) (R : Option (Int × Int × RDT)) (n p : Int) (d : RDT) : Prop := ∃ f : Nat, ro - n < f ∧ rRun A ro f n p d = R
section UI
variable {A : TN} {ro n p b : Int} {d e : RDT} {R : Option (Int × Int × RDT)}
theorem uI_s (h : uI A ro R n p d) (hn : n < ro) (hb : rdBit A d = some (1, e)) : uI A ro R (n + min (2 ^ (jj p).toNat) (ro - n)) (if 2 ^ (jj p).toNat ≤ ro - n then min 31 (p + 1) else p) e := by
  obtain ⟨f, h1, h2⟩ := h
  obtain ⟨k, rfl⟩ : ∃ k, f = k + 1 := ⟨f - 1, by omega⟩
  have hp : (1 : Int) ≤ 2 ^ (jj p).toNat := Int.pow_pos (by decide)
  rw [rRun, if_neg (by omega), hb, bd_s, if_pos rfl] at h2
  exact ⟨k, by omega, h2⟩
theorem uI_0 (h : uI A ro R n p d) (hn : n < ro) (hb : rdBit A d = some (b, e)) (h1 : b ≠ 1) : R = (rdBs A (jj p).toNat 0 e).bind fun r => if ro ≤ n + r.1 then none else some (n + r.1, p, r.2) := by
  obtain ⟨f, h3, h2⟩ := h
  obtain ⟨k, rfl⟩ : ∃ k, f = k + 1 := ⟨f - 1, by omega⟩
  rw [rRun, if_neg (by omega), hb, bd_s, if_neg h1] at h2
  exact h2.symm
theorem uI_n (h : uI A ro R n p d) (hn : n < ro) (hb : rdBit A d = none) : R = none := by
  obtain ⟨f, h3, h2⟩ := h
  obtain ⟨k, rfl⟩ : ∃ k, f = k + 1 := ⟨f - 1, by omega⟩
  rw [rRun, if_neg (by omega), hb, bd_n] at h2
  exact h2.symm
theorem uI_e (h : uI A ro R n p d) (hn : ro ≤ n) (hn2 : n ≤ ro) : R = some (n, p, d) := by
  obtain ⟨f, h3, h2⟩ := h
  cases f with
  | zero => omega
  | succ k => rw [rRun, if_pos hn] at h2; exact h2.symm
/-- behind the run's ones -/
def uX (A : TN) (ro : Int) (R : Option (Int × Int × RDT)) (n p : Int) (d : RDT) : Prop := (n = ro ∧ R = some (n, p, d)) ∨ (n < ro ∧ R = (rdBs A (jj p).toNat 0 d).bind fun r => if ro ≤ n + r.1 then none else some (n + r.1, p, r.2))
theorem run_e (h : uX A ro R n p d) (hn : ro ≤ n) : R = some (n, p, d) := by
  rcases h with ⟨h1, h2⟩ | ⟨h1, h2⟩
  · exact h2
  · omega
theorem run_n (h : uX A ro R n p d) (hn : n < ro) (hb : rdBs A (jj p).toNat 0 d = none) : R = none := by
  rcases h with ⟨h1, h2⟩ | ⟨h1, h2⟩
  · omega
  · rw [h2, hb, bd_n]
theorem run_f (h : uX A ro R n p d) (hn : n < ro) (hb : rdBs A (jj p).toNat 0 d = some (b, e)) (h3 : ro ≤ n + b) : R = none := by
  rcases h with ⟨h1, h2⟩ | ⟨h1, h2⟩
  · omega
  · rw [h2, hb, bd_s, if_pos h3]
theorem run_c (h : uX A ro R n p d) (hn : n < ro) (hb : rdBs A (jj p).toNat 0 d = some (b, e)) (h3 : n + b < ro) : R = some (n + b, p, e) := by
  rcases h with ⟨h1, h2⟩ | ⟨h1, h2⟩
  · omega
  · rw [h2, hb, bd_s, if_neg (by show ¬ ro ≤ n + b; omega)]
end UI
theorem eT_nu {m s o R : Int} (hm : 0 ≤ m) (hs : 0 ≤ s ∧ s ≤ 1) (he : -(R / 2) ≤ eT m s o ∧ eT m s o ≤ (R - 1) / 2) (hR : 2 ≤ R ∧ R ≤ 65536) : m ≤ 65536 := by
  unfold eT at he
  split at he <;> omega
set_option maxRecDepth 100000 in
set_option maxHeartbeats 4000000 in
theorem e_isError {g : Nat → Int} {Zi : Nat → Option (Nat × (Nat → Int))} {d n q : Nat} {D : Nat → Nat × Nat} {s : Nat → Int} {p : Nat → Nat} {c : Nat → Nat → Int} (hd : 0 ≤ d) (hz : zk Zi) (hq : q + 0 ≤ 400000) (hD : wd n p) (hS : bS s) (hC : bC D c) (hW : wp q g n D p s) (Z : Nat → Int) (v : Int) (b_v : -1073741825 ≤ v ∧ v ≤ 1073741825) (hp0 : zq Z (s 800) (s 801) (s 802) (s 803) (s 804) (s 805) (s 806) (s 807) (s 808) (s 809)) (hp1 : mv Z) : tt Zi d 60 (0, [some (.inr (.inl 8)), some (.inl v)], [], n, D, s, p, c) (fun R H => ∃ (r : Int), R = .inl (some (.inl r)) ∧ H = (n, D, s, p, c) ∧ (0 ≤ r ∧ r ≤ 1) ∧ (r = 1 ↔ (-(Z 3024 / 2) ≤ v ∧ v ≤ (Z 3024 - 1) / 2))) := by
  have hzq := hp0
  obtain ⟨z0, z1, z2, z3, z4, z5, z6, z7, z8, z9⟩ := hzq
  have mvx := mv_fx (s := Z) hp1
  have b1 : 0 ≤ (s 807) ∧ (s 807) ≤ 65536 := hS 807
  refine tt_k 4 (S' := (6, [some (.inr (.inl 8)), some (.inl v)], [.inl 2, .inl (s 807), .inl v], n, D, s, p, c)) rfl ?_
  refine tt_dvp (x := (s 807)) (y := 2) rfl (by omega) ?_
  show tt Zi d 60 (7, [some (.inr (.inl 8)), some (.inl v)], [.inl ((s 807) / 2), .inl v], n, D, s, p, c) _
  refine tt_k 1 (S' := (8, [some (.inr (.inl 8)), some (.inl v)], [.inl ((-((s 807) / 2))), .inl v], n, D, s, p, c)) rfl ?_
  refine tb_lt (x := v) (y := (-((s 807) / 2))) rfl rfl (by omega) (fun h2 => ?_) (fun h2 => ?_)
  · show tt Zi d 60 (27, [some (.inr (.inl 8)), some (.inl v)], [], n, D, s, p, c) _
    refine tt_k 1 (S' := (28, [some (.inr (.inl 8)), some (.inl v)], [.inl 0], n, D, s, p, c)) rfl ?_
    exact tt_rtb rfl rfl (by omega) ⟨0, rfl, rfl, by omega, by show 0 = 1 ↔ (-(Z 3024 / 2) ≤ v ∧ v ≤ (Z 3024 - 1) / 2); omega⟩
  · show tt Zi d 60 (11, [some (.inr (.inl 8)), some (.inl v)], [], n, D, s, p, c) _
    refine tt_k 6 (S' := (19, [some (.inr (.inl 8)), some (.inl v)], [.inl 2, .inl ((s 807) - 1), .inl v], n, D, s, p, c)) rfl ?_
    refine tt_dvp (x := ((s 807) - 1)) (y := 2) rfl (by omega) ?_
    show tt Zi d 60 (20, [some (.inr (.inl 8)), some (.inl v)], [.inl ((((s 807) - 1) / 2)), .inl v], n, D, s, p, c) _
    refine tb_gt (x := v) (y := (((s 807) - 1) / 2)) rfl rfl (by omega) (fun h3 => ?_) (fun h3 => ?_)
    · show tt Zi d 60 (27, [some (.inr (.inl 8)), some (.inl v)], [], n, D, s, p, c) _
      refine tt_k 1 (S' := (28, [some (.inr (.inl 8)), some (.inl v)], [.inl 0], n, D, s, p, c)) rfl ?_
      exact tt_rtb rfl rfl (by omega) ⟨0, rfl, rfl, by omega, by show 0 = 1 ↔ (-(Z 3024 / 2) ≤ v ∧ v ≤ (Z 3024 - 1) / 2); omega⟩
    · show tt Zi d 60 (23, [some (.inr (.inl 8)), some (.inl v)], [], n, D, s, p, c) _
      refine tt_k 2 (S' := (28, [some (.inr (.inl 8)), some (.inl v)], [.inl 1], n, D, s, p, c)) rfl ?_
      exact tt_rtb rfl rfl (by omega) ⟨1, rfl, rfl, by omega, by show 1 = 1 ↔ (-(Z 3024 / 2) ≤ v ∧ v ≤ (Z 3024 - 1) / 2); omega⟩
set_option maxRecDepth 100000 in
set_option maxHeartbeats 4000000 in
theorem e_checkError {g : Nat → Int} {Zi : Nat → Option (Nat × (Nat → Int))} {d n q : Nat} {D : Nat → Nat × Nat} {s : Nat → Int} {p : Nat → Nat} {c : Nat → Nat → Int} (hd : 4 ≤ d) (hz : zk Zi) (hq : q + 8 ≤ 400000) (hD : wd n p) (hS : bS s) (hC : bC D c) (hW : wp q g n D p s) (Z : Nat → Int) (e : Int) (b_e : -1073741825 ≤ e ∧ e ≤ 1073741825) (hp0 : zq Z (s 800) (s 801) (s 802) (s 803) (s 804) (s 805) (s 806) (s 807) (s 808) (s 809)) (hp1 : mv Z) : tt Zi d 59 (0, [some (.inr (.inl 21)), some (.inl e)], [], n, D, s, p, c) (fun R H => (R = .inl none ∧ H = (n, D, s, p, c) ∧ (-(Z 3024 / 2) ≤ e ∧ e ≤ (Z 3024 - 1) / 2)) ∨ (R = .inr 12 ∧ cXp ((q + 1)) g s p c [] [800, 801, 802, 803, 804, 805, 806, 807, 808, 809, 902, 1705, 1706, 2001, 2002, 2003, 2004, 2005, 2006, 2106, 2107, 2108, 2109, 2110, 2111, 2112, 2113, 2114, 2115, 2116] H ∧ (¬ (-(Z 3024 / 2) ≤ e ∧ e ≤ (Z 3024 - 1) / 2)))) := by
  have b1 : -1 ≤ (s 2004) ∧ (s 2004) ≤ 100000 := hS 2004
  refine tt_k 3 (S' := (5, [some (.inr (.inl 21)), some (.inl e)], [.inl e, .inr (.inl 8)], n, D, s, p, c)) rfl ?_
  have b2 : 0 ≤ (s 800) ∧ (s 800) ≤ 65535 := hS 800
  have b3 : -2147483648 ≤ (s 801) ∧ (s 801) ≤ 2147483647 := hS 801
  have b4 : -2147483648 ≤ (s 802) ∧ (s 802) ≤ 2147483647 := hS 802
  have b5 : -2147483648 ≤ (s 803) ∧ (s 803) ≤ 2147483647 := hS 803
  have b6 : -2147483648 ≤ (s 804) ∧ (s 804) ≤ 2147483647 := hS 804
  have b7 : 0 ≤ (s 805) ∧ (s 805) ≤ 65535 := hS 805
  have b8 : 1 ≤ (s 806) ∧ (s 806) ≤ 511 := hS 806
  have b9 : 0 ≤ (s 807) ∧ (s 807) ≤ 65536 := hS 807
  have b10 : 0 ≤ (s 808) ∧ (s 808) ≤ 30 := hS 808
  have b11 : 0 ≤ (s 809) ∧ (s 809) ≤ 64 := hS 809
  refine tt_cl (by omega) rfl (e_isError (Zi := Zi) (q := q) (n := n) (D := D) (s := s) (p := p) (c := c) (by omega) hz (by omega) hD hS hC hW Z e (by omega) hp0 hp1) ?_
  rintro _ _ ⟨r12, rfl, rfl, b13, k14⟩
  show tt Zi d 59 (8, [some (.inr (.inl 21)), some (.inl e)], [.inl r12], n, D, s, p, c) _
  replace k14 : r12 = 1 ↔ (-(Z 3024 / 2) ≤ e ∧ e ≤ (Z 3024 - 1) / 2) := k14
  refine tz_ne (x := r12) rfl rfl (by omega) (fun h15 => ?_) (fun h15 => ?_)
  · show tt Zi d 59 (27, [some (.inr (.inl 21)), some (.inl e)], [], n, D, s, p, c) _
    exact tt_rtv rfl rfl (Or.inl ⟨rfl, rfl, by show -(Z 3024 / 2) ≤ e ∧ e ≤ (Z 3024 - 1) / 2; omega⟩)
  · show tt Zi d 59 (11, [some (.inr (.inl 21)), some (.inl e)], [], n, D, s, p, c) _
    refine tt_k 6 (S' := (24, [some (.inr (.inl 21)), some (.inl e)], [.inl (s 2004), .inl 7, .inr (.inl 20)], n, D, s, p, c)) rfl ?_
    refine tt_cl (by omega) rfl (e_refuse (Zi := Zi) (q := q) (n := n) (D := D) (s := s) (p := p) (c := c) (by omega) hz (by omega) hD hS hC hW 7 (s 2004) (by omega) (by omega)) ?_
    rintro _ H1 (hF | ⟨rfl, hY16⟩)
    · exact hF.elim
    · exact tt_ax rfl (Or.inr ⟨rfl, cXp_mono (cXp_tr (fk_rf hD) (show fr s s [800, 801, 802, 803, 804, 805, 806, 807, 808, 809, 902, 1705, 1706, 2001, 2002, 2003, 2004, 2005, 2006, 2106, 2107, 2108, 2109, 2110, 2111, 2112, 2113, 2114, 2115, 2116] from fr_rf) ((frp_rf : frp p p []) 8 (by decide)) hY16 (by decide) (by decide)) (by omega), (by omega)⟩)
set_option maxRecDepth 100000 in
set_option maxHeartbeats 4000000 in
theorem u_tellSample {g : Nat → Int} {Zi : Nat → Option (Nat × (Nat → Int))} {d n q : Nat} {D : Nat → Nat × Nat} {s : Nat → Int} {p : Nat → Nat} {c : Nat → Nat → Int} (hd : 7 ≤ d) (hz : zk Zi) (hq : q + 14 ≤ 400000) (hD : wd n p) (hS : bS s) (hC : bC D c) (hW : wp q g n D p s) (A : TN) (t : Int) (Z : Nat → Int) (M : MT) (x : Int) (b_x : 0 ≤ x ∧ x ≤ 63) (hp0 : tpl A (s 601) (c (p 600))) (hp1 : (0 ≤ s 2003 ∧ s 2003 ≤ 8) ∧ (0 ≤ s 2002 ∧ s 2002 ≤ 255)) (hp2 : s 2001 ≤ s 601) (hp3 : mrc M (c (p 901))) (hp4 : zq Z (s 800) (s 801) (s 802) (s 803) (s 804) (s 805) (s 806) (s 807) (s 808) (s 809)) (hp5 : mv Z) (hp6 : pl Z t M) (hp7 : 0 ≤ t ∧ t ≤ 4095) (hp8 : 0 ≤ s 2114 ∧ s 2114 ≤ Z 3017) (hp9 : (0 ≤ s 2113 ∧ s 2113 ≤ 16) ∧ (0 ≤ s 2116 ∧ s 2116 ≤ 1) ∧ (0 ≤ s 2115 ∧ s 2115 ≤ 1)) : tt Zi d 55 (0, [some (.inr (.inl 21)), some (.inl x), none, none, none], [], n, D, s, p, c) (fun R H => (∃ (s' : Nat → Int) (c' : Nat → Nat → Int), R = .inl none ∧ H = (n, D, s', p, c') ∧ bS s' ∧ bC D c' ∧ wp q g n D p s' ∧ fr s s' [2001, 2002, 2003, 2004] ∧ fk p c n p c' [901, 2104] ∧ (∃ m, (rdNum A (s 2113) (Z 3026 - Z 3025 - 1) (Z 3025) (s 2001, s 2002, s 2003)) = some (m, s' 2001, s' 2002, s' 2003) ∧ (-(Z 3024 / 2) ≤ (eM m (s 2116)) ∧ (eM m (s 2116)) ≤ (Z 3024 - 1) / 2) ∧ mrc (mLrn Z M (s 2111).toNat (eM m (s 2116))) (c' (p 901)) ∧ c' (p 2104) = ua (c (p 2104)) (x + 1).toNat (rR Z (s 2114) (s 2115) (eM m (s 2116)))) ∧ ((0 ≤ s' 2003 ∧ s' 2003 ≤ 8) ∧ (0 ≤ s' 2002 ∧ s' 2002 ≤ 255)) ∧ (s' 2001 ≤ s 601)) ∨ (R = .inr 12 ∧ cXp ((q + 1)) g s p c [901, 2104] [800, 801, 802, 803, 804, 805, 806, 807, 808, 809, 902, 1705, 1706, 2001, 2002, 2003, 2004, 2005, 2006, 2106, 2107, 2108, 2109, 2110, 2111, 2112, 2113, 2114, 2115, 2116] H ∧ (rqN Z (fun m => (eM m (s 2116))) (rdNum A (s 2113) (Z 3026 - Z 3025 - 1) (Z 3025) (s 2001, s 2002, s 2003))))) := by
  have hzq := hp4
  obtain ⟨z0, z1, z2, z3, z4, z5, z6, z7, z8, z9⟩ := hzq
  have mvx := mv_fx (s := Z) hp5
  have b1 : 0 ≤ (s 2111) ∧ (s 2111) ≤ 366 := hS 2111
  have b2 : 0 ≤ (s 2114) ∧ (s 2114) ≤ 65535 := hS 2114
  have b3 : 0 ≤ (s 2115) ∧ (s 2115) ≤ 1 := hS 2115
  have b4 : 0 ≤ (s 2116) ∧ (s 2116) ≤ 1 := hS 2116
  have b5 : 0 ≤ (s 2113) ∧ (s 2113) ≤ 30 := hS 2113
  have b6 : 0 ≤ (s 2001) ∧ (s 2001) ≤ 100000 := hS 2001
  have b7 : 0 ≤ (s 2002) ∧ (s 2002) ≤ 255 := hS 2002
  have b8 : 0 ≤ (s 2003) ∧ (s 2003) ≤ 8 := hS 2003
  have b9 : 0 ≤ (s 601) ∧ (s 601) ≤ 32768 := hS 601
  refine tt_k 14 (S' := (26, [some (.inr (.inl 21)), some (.inl x), none, none, none], [.inr (.inl 21), .inl ((((s 809) - (s 808)) - 1)), .inl (s 2113), .inr (.inl 20)], n, D, s, p, c)) rfl ?_
  refine tt_k 2 (S' := (32, [some (.inr (.inl 21)), some (.inl x), none, none, none], [.inl (s 808), .inl ((((s 809) - (s 808)) - 1)), .inl (s 2113), .inr (.inl 20)], n, D, s, p, c)) rfl ?_
  have b10 : 0 ≤ (s 809) ∧ (s 809) ≤ 64 := hS 809
  have b11 : 0 ≤ (s 808) ∧ (s 808) ≤ 30 := hS 808
  refine tt_cl (by omega) rfl (e_readNumber (Zi := Zi) (q := q) (n := n) (D := D) (s := s) (p := p) (c := c) (by omega) hz (by omega) hD hS hC hW A (s 2113) ((((s 809) - (s 808)) - 1)) (s 808) (by omega) (by omega) (by omega) hp0 (show (0 ≤ (s 2003) ∧ (s 2003) ≤ 8) ∧ (0 ≤ (s 2002) ∧ (s 2002) ≤ 255) by omega) (show (s 2001) ≤ (s 601) by omega)) ?_
  rintro _ H1 (⟨s12, r13, rfl, rfl, hS12, hW14, f15, b16, k17, k18, k19⟩ | ⟨rfl, hY20, hn21⟩)
  rotate_left
  · exact tt_ax rfl (Or.inr ⟨rfl, cXp_mono (cXp_tr (fk_rf hD) (show fr s s [800, 801, 802, 803, 804, 805, 806, 807, 808, 809, 902, 1705, 1706, 2001, 2002, 2003, 2004, 2005, 2006, 2106, 2107, 2108, 2109, 2110, 2111, 2112, 2113, 2114, 2115, 2116] from fr_rf) ((frp_rf : frp p p []) 8 (by decide)) hY20 (by decide) (by decide)) (by omega), (rq_0 (by have h := hn21; simp only [z9, z8] at h; exact h))⟩)
  show tt Zi d 55 (35, [some (.inr (.inl 21)), some (.inl x), none, none, none], [.inl r13], n, D, s12, p, c) _
  replace k17 : rdNum A (s 2113) ((((s 809) - (s 808)) - 1)) (s 808) ((s 2001), (s 2002), (s 2003)) = some (r13, (s12 2001), (s12 2002), (s12 2003)) := k17
  replace k18 : (0 ≤ (s12 2003) ∧ (s12 2003) ≤ 8) ∧ (0 ≤ (s12 2002) ∧ (s12 2002) ≤ 255) := k18
  replace k19 : (s12 2001) ≤ (s 601) := k19
  have b22 : 0 ≤ (s12 2001) ∧ (s12 2001) ≤ 100000 := hS12 2001
  have b23 : 0 ≤ (s12 2002) ∧ (s12 2002) ≤ 255 := hS12 2002
  have b24 : 0 ≤ (s12 2003) ∧ (s12 2003) ≤ 8 := hS12 2003
  have e25 : s12 601 = (s 601) := (f15 601 (by decide))
  have b26 : 0 ≤ (s12 601) ∧ (s12 601) ≤ 32768 := hS12 601
  have e27 : s12 2114 = (s 2114) := (f15 2114 (by decide))
  have b28 : 0 ≤ (s12 2114) ∧ (s12 2114) ≤ 65535 := hS12 2114
  have e29 : s12 2115 = (s 2115) := (f15 2115 (by decide))
  have b30 : 0 ≤ (s12 2115) ∧ (s12 2115) ≤ 1 := hS12 2115
  have e31 : s12 2111 = (s 2111) := (f15 2111 (by decide))
  have b32 : 0 ≤ (s12 2111) ∧ (s12 2111) ≤ 366 := hS12 2111
  have e33 : s12 2116 = (s 2116) := (f15 2116 (by decide))
  have b34 : 0 ≤ (s12 2116) ∧ (s12 2116) ≤ 1 := hS12 2116
  have e35 : s12 2112 = (s 2112) := (f15 2112 (by decide))
  have b36 : 0 ≤ (s12 2112) ∧ (s12 2112) ≤ 1 := hS12 2112
  have b37 : 0 ≤ (s 2112) ∧ (s 2112) ≤ 1 := hS 2112
  have hx38 : tpl A (s12 601) (c (p 600)) := by rw [f15 601 (by decide)]; exact hp0
  have hx39 : zq Z (s12 800) (s12 801) (s12 802) (s12 803) (s12 804) (s12 805) (s12 806) (s12 807) (s12 808) (s12 809) := by rw [f15 800 (by decide), f15 801 (by decide), f15 802 (by decide), f15 803 (by decide), f15 804 (by decide), f15 805 (by decide), f15 806 (by decide), f15 807 (by decide), f15 808 (by decide), f15 809 (by decide)]; exact hp4
  have hnm : (rdNum A (s 2113) (Z 3026 - Z 3025 - 1) (Z 3025) (s 2001, s 2002, s 2003)) = some (r13, s12 2001, s12 2002, s12 2003) := by have h := k17; simp only [z9, z8] at h; exact h
  refine tt_k 3 (S' := (38, [some (.inr (.inl 21)), some (.inl x), some (.inl r13), none, none], [.inl 2, .inl r13], n, D, s12, p, c)) rfl ?_
  refine tt_rmp (x := r13) (y := 2) rfl (by omega) ?_
  show tt Zi d 55 (39, [some (.inr (.inl 21)), some (.inl x), some (.inl r13), none, none], [.inl (r13 % 2)], n, D, s12, p, c) _
  refine tt_k 1 (S' := (40, [some (.inr (.inl 21)), some (.inl x), some (.inl r13), none, none], [.inl 1, .inl (r13 % 2)], n, D, s12, p, c)) rfl ?_
  have K41 : ∀ (j40 : Int) , (0 ≤ j40 ∧ j40 ≤ 1) → (j40 = r13 % 2) → (True) → tt Zi d 55 (48, [some (.inr (.inl 21)), some (.inl x), some (.inl r13), none, none], [.inl j40], n, D, s12, p, c) (fun R H => (∃ (s' : Nat → Int) (c' : Nat → Nat → Int), R = .inl none ∧ H = (n, D, s', p, c') ∧ bS s' ∧ bC D c' ∧ wp q g n D p s' ∧ fr s s' [2001, 2002, 2003, 2004] ∧ fk p c n p c' [901, 2104] ∧ (∃ m, (rdNum A (s 2113) (Z 3026 - Z 3025 - 1) (Z 3025) (s 2001, s 2002, s 2003)) = some (m, s' 2001, s' 2002, s' 2003) ∧ (-(Z 3024 / 2) ≤ (eM m (s 2116)) ∧ (eM m (s 2116)) ≤ (Z 3024 - 1) / 2) ∧ mrc (mLrn Z M (s 2111).toNat (eM m (s 2116))) (c' (p 901)) ∧ c' (p 2104) = ua (c (p 2104)) (x + 1).toNat (rR Z (s 2114) (s 2115) (eM m (s 2116)))) ∧ ((0 ≤ s' 2003 ∧ s' 2003 ≤ 8) ∧ (0 ≤ s' 2002 ∧ s' 2002 ≤ 255)) ∧ (s' 2001 ≤ s 601)) ∨ (R = .inr 12 ∧ cXp ((q + 1)) g s p c [901, 2104] [800, 801, 802, 803, 804, 805, 806, 807, 808, 809, 902, 1705, 1706, 2001, 2002, 2003, 2004, 2005, 2006, 2106, 2107, 2108, 2109, 2110, 2111, 2112, 2113, 2114, 2115, 2116] H ∧ (rqN Z (fun m => (eM m (s 2116))) (rdNum A (s 2113) (Z 3026 - Z 3025 - 1) (Z 3025) (s 2001, s 2002, s 2003))))) := by
    intro j40 b43 b44 hj42
    refine tt_k 2 (S' := (52, [some (.inr (.inl 21)), some (.inl x), some (.inl r13), none, none], [.inl (s12 2116), .inl j40], n, D, s12, p, c)) rfl ?_
    have K46 : ∀ (j45 : Int) , (0 ≤ j45 ∧ j45 ≤ 1) → (j45 = 1 ↔ ((r13 % 2 = 1 ∧ s 2116 ≠ 1) ∨ (r13 % 2 ≠ 1 ∧ s 2116 = 1))) → (True) → tt Zi d 55 (60, [some (.inr (.inl 21)), some (.inl x), some (.inl r13), none, none], [.inl j45], n, D, s12, p, c) (fun R H => (∃ (s' : Nat → Int) (c' : Nat → Nat → Int), R = .inl none ∧ H = (n, D, s', p, c') ∧ bS s' ∧ bC D c' ∧ wp q g n D p s' ∧ fr s s' [2001, 2002, 2003, 2004] ∧ fk p c n p c' [901, 2104] ∧ (∃ m, (rdNum A (s 2113) (Z 3026 - Z 3025 - 1) (Z 3025) (s 2001, s 2002, s 2003)) = some (m, s' 2001, s' 2002, s' 2003) ∧ (-(Z 3024 / 2) ≤ (eM m (s 2116)) ∧ (eM m (s 2116)) ≤ (Z 3024 - 1) / 2) ∧ mrc (mLrn Z M (s 2111).toNat (eM m (s 2116))) (c' (p 901)) ∧ c' (p 2104) = ua (c (p 2104)) (x + 1).toNat (rR Z (s 2114) (s 2115) (eM m (s 2116)))) ∧ ((0 ≤ s' 2003 ∧ s' 2003 ≤ 8) ∧ (0 ≤ s' 2002 ∧ s' 2002 ≤ 255)) ∧ (s' 2001 ≤ s 601)) ∨ (R = .inr 12 ∧ cXp ((q + 1)) g s p c [901, 2104] [800, 801, 802, 803, 804, 805, 806, 807, 808, 809, 902, 1705, 1706, 2001, 2002, 2003, 2004, 2005, 2006, 2106, 2107, 2108, 2109, 2110, 2111, 2112, 2113, 2114, 2115, 2116] H ∧ (rqN Z (fun m => (eM m (s 2116))) (rdNum A (s 2113) (Z 3026 - Z 3025 - 1) (Z 3025) (s 2001, s 2002, s 2003))))) := by
      intro j45 b48 b49 hj47
      refine tt_k 2 (S' := (62, [some (.inr (.inl 21)), some (.inl x), some (.inl r13), some (.inl j45), none], [.inl j45], n, D, s12, p, c)) rfl ?_
      have K51 : ∀ (j50 : Int) , (-536870912 ≤ j50 ∧ j50 ≤ 536870911) → (j50 = (eM r13 (s 2116))) → (True) → tt Zi d 55 (77, [some (.inr (.inl 21)), some (.inl x), some (.inl r13), some (.inl j45), none], [.inl j50], n, D, s12, p, c) (fun R H => (∃ (s' : Nat → Int) (c' : Nat → Nat → Int), R = .inl none ∧ H = (n, D, s', p, c') ∧ bS s' ∧ bC D c' ∧ wp q g n D p s' ∧ fr s s' [2001, 2002, 2003, 2004] ∧ fk p c n p c' [901, 2104] ∧ (∃ m, (rdNum A (s 2113) (Z 3026 - Z 3025 - 1) (Z 3025) (s 2001, s 2002, s 2003)) = some (m, s' 2001, s' 2002, s' 2003) ∧ (-(Z 3024 / 2) ≤ (eM m (s 2116)) ∧ (eM m (s 2116)) ≤ (Z 3024 - 1) / 2) ∧ mrc (mLrn Z M (s 2111).toNat (eM m (s 2116))) (c' (p 901)) ∧ c' (p 2104) = ua (c (p 2104)) (x + 1).toNat (rR Z (s 2114) (s 2115) (eM m (s 2116)))) ∧ ((0 ≤ s' 2003 ∧ s' 2003 ≤ 8) ∧ (0 ≤ s' 2002 ∧ s' 2002 ≤ 255)) ∧ (s' 2001 ≤ s 601)) ∨ (R = .inr 12 ∧ cXp ((q + 1)) g s p c [901, 2104] [800, 801, 802, 803, 804, 805, 806, 807, 808, 809, 902, 1705, 1706, 2001, 2002, 2003, 2004, 2005, 2006, 2106, 2107, 2108, 2109, 2110, 2111, 2112, 2113, 2114, 2115, 2116] H ∧ (rqN Z (fun m => (eM m (s 2116))) (rdNum A (s 2113) (Z 3026 - Z 3025 - 1) (Z 3025) (s 2001, s 2002, s 2003))))) := by
        intro j50 b53 b54 hj52
        refine tt_k 3 (S' := (82, [some (.inr (.inl 21)), some (.inl x), some (.inl r13), some (.inl j45), some (.inl j50)], [.inl j50, .inr (.inl 21)], n, D, s12, p, c)) rfl ?_
        have b55 : 0 ≤ (s12 800) ∧ (s12 800) ≤ 65535 := hS12 800
        have b56 : -2147483648 ≤ (s12 801) ∧ (s12 801) ≤ 2147483647 := hS12 801
        have b57 : -2147483648 ≤ (s12 802) ∧ (s12 802) ≤ 2147483647 := hS12 802
        have b58 : -2147483648 ≤ (s12 803) ∧ (s12 803) ≤ 2147483647 := hS12 803
        have b59 : -2147483648 ≤ (s12 804) ∧ (s12 804) ≤ 2147483647 := hS12 804
        have b60 : 0 ≤ (s12 805) ∧ (s12 805) ≤ 65535 := hS12 805
        have b61 : 1 ≤ (s12 806) ∧ (s12 806) ≤ 511 := hS12 806
        have b62 : 0 ≤ (s12 807) ∧ (s12 807) ≤ 65536 := hS12 807
        have b63 : 0 ≤ (s12 808) ∧ (s12 808) ≤ 30 := hS12 808
        have b64 : 0 ≤ (s12 809) ∧ (s12 809) ≤ 64 := hS12 809
        refine tt_cl (by omega) rfl (e_checkError (Zi := Zi) (q := q) (n := n) (D := D) (s := s12) (p := p) (c := c) (by omega) hz (by omega) hD hS12 hC hW14 Z j50 (by omega) hx39 hp5) ?_
        rintro _ H1 (⟨rfl, rfl, k65⟩ | ⟨rfl, hY66, hn67⟩)
        rotate_left
        · exact tt_ax rfl (Or.inr ⟨rfl, cXp_mono (cXp_tr (fk_rf hD) (show fr s s12 [800, 801, 802, 803, 804, 805, 806, 807, 808, 809, 902, 1705, 1706, 2001, 2002, 2003, 2004, 2005, 2006, 2106, 2107, 2108, 2109, 2110, 2111, 2112, 2113, 2114, 2115, 2116] from (fr_tr fr_rf f15 (by decide))) ((frp_rf : frp p p []) 8 (by decide)) hY66 (by decide) (by decide)) (by omega), (rq_1 hnm (by show ¬ (-(Z 3024 / 2) ≤ (eM r13 (s 2116)) ∧ (eM r13 (s 2116)) ≤ (Z 3024 - 1) / 2); rw [← b54]; exact hn67))⟩)
        show tt Zi d 55 (85, [some (.inr (.inl 21)), some (.inl x), some (.inl r13), some (.inl j45), some (.inl j50)], [], n, D, s12, p, c) _
        replace k65 : -(Z 3024 / 2) ≤ j50 ∧ j50 ≤ (Z 3024 - 1) / 2 := k65
        have hie : -(Z 3024 / 2) ≤ (eM r13 (s 2116)) ∧ (eM r13 (s 2116)) ≤ (Z 3024 - 1) / 2 := by rw [← b54]; exact k65
        refine tt_k 3 (S' := (89, [some (.inr (.inl 21)), some (.inl x), some (.inl r13), some (.inl j45), some (.inl j50)], [.inl j50, .inl x, .inr (.inl 21)], n, D, s12, p, c)) rfl ?_
        refine tt_cl (by omega) rfl (u_takeSample (Zi := Zi) (q := q) (n := n) (D := D) (s := s12) (p := p) (c := c) (by omega) hz (by omega) hD hS12 hC hW14 t Z M x j50 (by omega) (by omega) hp3 hx39 hp5 hp6 hp7 (show 0 ≤ (s12 2114) ∧ (s12 2114) ≤ Z 3017 by omega)) ?_
        rintro _ _ ⟨c68, rfl, rfl, hC68, kf69, k70, k71⟩
        have FK72 : fk p c n p c68 [901, 2104] := fk_tr (fk_rf hD) kf69 (by decide)
        show tt Zi d 55 (92, [some (.inr (.inl 21)), some (.inl x), some (.inl r13), some (.inl j45), some (.inl j50)], [], n, D, s12, p, c68) _
        have hx73 : tpl A (s12 601) (c68 (p 600)) := by rw [fk_k (k := 600) kf69 (by decide)]; exact hx38
        exact tt_rtv rfl rfl (Or.inl ⟨s12, c68, rfl, rfl, hS12, hC68, hW14, (fr_tr fr_rf f15 (by decide)), FK72, ⟨r13, by show (rdNum A (s 2113) (Z 3026 - Z 3025 - 1) (Z 3025) (s 2001, s 2002, s 2003)) = some (r13, _); rw [hnm], hie, by have h := k71; rw [b54, f15 2111 (by decide)] at h; exact h, by rw [k70, f15 2114 (by decide), f15 2115 (by decide), b54]⟩, by show (0 ≤ (s12 2003) ∧ (s12 2003) ≤ 8) ∧ (0 ≤ (s12 2002) ∧ (s12 2002) ≤ 255); omega, by show (s12 2001) ≤ s 601; omega⟩)
      refine tz_eq (x := j45) rfl rfl (by omega) (fun h74 => ?_) (fun h74 => ?_)
      · show tt Zi d 55 (74, [some (.inr (.inl 21)), some (.inl x), some (.inl r13), some (.inl j45), none], [], n, D, s12, p, c) _
        refine tt_k 2 (S' := (76, [some (.inr (.inl 21)), some (.inl x), some (.inl r13), some (.inl j45), none], [.inl 2, .inl r13], n, D, s12, p, c)) rfl ?_
        refine tt_dvp (x := r13) (y := 2) rfl (by omega) ?_
        show tt Zi d 55 (77, [some (.inr (.inl 21)), some (.inl x), some (.inl r13), some (.inl j45), none], [.inl (r13 / 2)], n, D, s12, p, c) _
        exact K51 (r13 / 2)  (by omega) (by unfold eM; first | rw [if_pos (by omega)] | rw [if_neg (by omega)]) (trivial)
      · show tt Zi d 55 (65, [some (.inr (.inl 21)), some (.inl x), some (.inl r13), some (.inl j45), none], [], n, D, s12, p, c) _
        refine tt_k 2 (S' := (67, [some (.inr (.inl 21)), some (.inl x), some (.inl r13), some (.inl j45), none], [.inl 2, .inl r13], n, D, s12, p, c)) rfl ?_
        refine tt_dvp (x := r13) (y := 2) rfl (by omega) ?_
        show tt Zi d 55 (68, [some (.inr (.inl 21)), some (.inl x), some (.inl r13), some (.inl j45), none], [.inl (r13 / 2)], n, D, s12, p, c) _
        refine tt_k 4 (S' := (77, [some (.inr (.inl 21)), some (.inl x), some (.inl r13), some (.inl j45), none], [.inl (((-(r13 / 2)) - 1))], n, D, s12, p, c)) rfl ?_
        exact K51 (((-(r13 / 2)) - 1))  (by omega) (by unfold eM; first | rw [if_pos (by omega)] | rw [if_neg (by omega)]) (trivial)
    refine tb_eq (x := j40) (y := (s12 2116)) rfl rfl (by omega) (fun h75 => ?_) (fun h75 => ?_)
    · show tt Zi d 55 (59, [some (.inr (.inl 21)), some (.inl x), some (.inl r13), none, none], [], n, D, s12, p, c) _
      refine tt_k 1 (S' := (60, [some (.inr (.inl 21)), some (.inl x), some (.inl r13), none, none], [.inl 0], n, D, s12, p, c)) rfl ?_
      exact K46 0  (by omega) (by omega) (trivial)
    · show tt Zi d 55 (55, [some (.inr (.inl 21)), some (.inl x), some (.inl r13), none, none], [], n, D, s12, p, c) _
      refine tt_k 2 (S' := (60, [some (.inr (.inl 21)), some (.inl x), some (.inl r13), none, none], [.inl 1], n, D, s12, p, c)) rfl ?_
      exact K46 1  (by omega) (by omega) (trivial)
  refine tb_ne (x := (r13 % 2)) (y := 1) rfl rfl (by omega) (fun h76 => ?_) (fun h76 => ?_)
  · show tt Zi d 55 (47, [some (.inr (.inl 21)), some (.inl x), some (.inl r13), none, none], [], n, D, s12, p, c) _
    refine tt_k 1 (S' := (48, [some (.inr (.inl 21)), some (.inl x), some (.inl r13), none, none], [.inl 0], n, D, s12, p, c)) rfl ?_
    exact K41 0  (by omega) (by omega) (trivial)
  · show tt Zi d 55 (43, [some (.inr (.inl 21)), some (.inl x), some (.inl r13), none, none], [], n, D, s12, p, c) _
    refine tt_k 2 (S' := (48, [some (.inr (.inl 21)), some (.inl x), some (.inl r13), none, none], [.inl 1], n, D, s12, p, c)) rfl ?_
    exact K41 1  (by omega) (by omega) (trivial)
set_option maxRecDepth 100000 in
set_option maxHeartbeats 4000000 in
theorem u_tellStop {g : Nat → Int} {Zi : Nat → Option (Nat × (Nat → Int))} {d n q : Nat} {D : Nat → Nat × Nat} {s : Nat → Int} {p : Nat → Nat} {c : Nat → Nat → Int} (hd : 7 ≤ d) (hz : zk Zi) (hq : q + 14 ≤ 400000) (hD : wd n p) (hS : bS s) (hC : bC D c) (hW : wp q g n D p s) (A : TN) (t : Int) (Z : Nat → Int) (M : MT) (x : Int) (b_x : 0 ≤ x ∧ x ≤ 63) (hp0 : tpl A (s 601) (c (p 600))) (hp1 : (0 ≤ s 2003 ∧ s 2003 ≤ 8) ∧ (0 ≤ s 2002 ∧ s 2002 ≤ 255)) (hp2 : s 2001 ≤ s 601) (hp3 : mrc M (c (p 901))) (hp4 : zq Z (s 800) (s 801) (s 802) (s 803) (s 804) (s 805) (s 806) (s 807) (s 808) (s 809)) (hp5 : mv Z) (hp6 : pl Z t M) (hp7 : 0 ≤ t ∧ t ≤ 4095) (hp8 : 0 ≤ s 2114 ∧ s 2114 ≤ Z 3017) (hp9 : (0 ≤ s 2113 ∧ s 2113 ≤ 16) ∧ (0 ≤ s 2116 ∧ s 2116 ≤ 1) ∧ (0 ≤ s 2115 ∧ s 2115 ≤ 1)) (hp10 : (0 ≤ s 2112 ∧ s 2112 ≤ 1) ∧ s 902 ≤ 22) : tt Zi d 74 (0, [some (.inr (.inl 21)), some (.inl x), none, none, none, none, none], [], n, D, s, p, c) (fun R H => (∃ (s' : Nat → Int) (c' : Nat → Nat → Int), R = .inl none ∧ H = (n, D, s', p, c') ∧ bS s' ∧ bC D c' ∧ wp q g n D p s' ∧ fr s s' [902, 2001, 2002, 2003, 2004] ∧ fk p c n p c' [901, 2104] ∧ (∃ m, (rdNum A (s 2113) (Z 3026 - 1 - jj (s 902) - Z 3025 - 1) (Z 3025) (s 2001, s 2002, s 2003)) = some (m, s' 2001, s' 2002, s' 2003) ∧ (-(Z 3024 / 2) ≤ (eT m (s 2112) (s 2116)) ∧ (eT m (s 2112) (s 2116)) ≤ (Z 3024 - 1) / 2) ∧ mrc (mStp Z M (s 2111).toNat (eT m (s 2112) (s 2116)) ((m + 1 - s 2112) / 2)) (c' (p 901)) ∧ c' (p 2104) = ua (c (p 2104)) (x + 1).toNat (rR Z (s 2114) (s 2115) (eT m (s 2112) (s 2116)))) ∧ ((0 ≤ s' 2003 ∧ s' 2003 ≤ 8) ∧ (0 ≤ s' 2002 ∧ s' 2002 ≤ 255)) ∧ (s' 2001 ≤ s 601) ∧ (s' 902 = (if 0 < s 902 then s 902 - 1 else 0))) ∨ (R = .inr 12 ∧ cXp ((q + 1)) g s p c [901, 2104] [800, 801, 802, 803, 804, 805, 806, 807, 808, 809, 902, 1705, 1706, 2001, 2002, 2003, 2004, 2005, 2006, 2106, 2107, 2108, 2109, 2110, 2111, 2112, 2113, 2114, 2115, 2116] H ∧ (rqN Z (fun m => (eT m (s 2112) (s 2116))) (rdNum A (s 2113) (Z 3026 - 1 - jj (s 902) - Z 3025 - 1) (Z 3025) (s 2001, s 2002, s 2003))))) := by
  have hzq := hp4
  obtain ⟨z0, z1, z2, z3, z4, z5, z6, z7, z8, z9⟩ := hzq
  have mvx := mv_fx (s := Z) hp5
  have b1 : 0 ≤ (s 2111) ∧ (s 2111) ≤ 366 := hS 2111
  have b2 : 0 ≤ (s 2114) ∧ (s 2114) ≤ 65535 := hS 2114
  have b3 : 0 ≤ (s 2115) ∧ (s 2115) ≤ 1 := hS 2115
  have b4 : 0 ≤ (s 2116) ∧ (s 2116) ≤ 1 := hS 2116
  have b5 : 0 ≤ (s 2113) ∧ (s 2113) ≤ 30 := hS 2113
  have b6 : 0 ≤ (s 2001) ∧ (s 2001) ≤ 100000 := hS 2001
  have b7 : 0 ≤ (s 2002) ∧ (s 2002) ≤ 255 := hS 2002
  have b8 : 0 ≤ (s 2003) ∧ (s 2003) ≤ 8 := hS 2003
  have b9 : 0 ≤ (s 601) ∧ (s 601) ≤ 32768 := hS 601
  have b10 : 0 ≤ (s 902) ∧ (s 902) ≤ 31 := hS 902
  have b11 : 0 ≤ (s 2112) ∧ (s 2112) ≤ 1 := hS 2112
  have hj9 := jj_bd (p := s 902) (by omega)
  refine tt_k 5 (S' := (9, [some (.inr (.inl 21)), some (.inl x), none, none, none, none, none], [.inr (.inl 21), .inl (s 2113), .inr (.inl 20)], n, D, s, p, c)) rfl ?_
  have b12 : 0 ≤ (s 800) ∧ (s 800) ≤ 65535 := hS 800
  have b13 : -2147483648 ≤ (s 801) ∧ (s 801) ≤ 2147483647 := hS 801
  have b14 : -2147483648 ≤ (s 802) ∧ (s 802) ≤ 2147483647 := hS 802
  have b15 : -2147483648 ≤ (s 803) ∧ (s 803) ≤ 2147483647 := hS 803
  have b16 : -2147483648 ≤ (s 804) ∧ (s 804) ≤ 2147483647 := hS 804
  have b17 : 0 ≤ (s 805) ∧ (s 805) ≤ 65535 := hS 805
  have b18 : 1 ≤ (s 806) ∧ (s 806) ≤ 511 := hS 806
  have b19 : 0 ≤ (s 807) ∧ (s 807) ≤ 65536 := hS 807
  have b20 : 0 ≤ (s 808) ∧ (s 808) ≤ 30 := hS 808
  have b21 : 0 ≤ (s 809) ∧ (s 809) ≤ 64 := hS 809
  refine tt_cl (by omega) rfl (u_stopLimit (Zi := Zi) (q := q) (n := n) (D := D) (s := s) (p := p) (c := c) (by omega) hz (by omega) hD hS hC hW Z hp4 hp5) ?_
  rintro _ _ ⟨r22, rfl, rfl, b23, k24⟩
  show tt Zi d 74 (12, [some (.inr (.inl 21)), some (.inl x), none, none, none, none, none], [.inl r22, .inl (s 2113), .inr (.inl 20)], n, D, s, p, c) _
  replace k24 : r22 = Z 3026 - 1 - jj ((s 902)) := k24
  refine tt_k 9 (S' := (29, [some (.inr (.inl 21)), some (.inl x), none, none, none, none, none], [.inl (s 808), .inl (((r22 - (s 808)) - 1)), .inl (s 2113), .inr (.inl 20)], n, D, s, p, c)) rfl ?_
  refine tt_cl (by omega) rfl (e_readNumber (Zi := Zi) (q := q) (n := n) (D := D) (s := s) (p := p) (c := c) (by omega) hz (by omega) hD hS hC hW A (s 2113) (((r22 - (s 808)) - 1)) (s 808) (by omega) (by omega) (by omega) hp0 (show (0 ≤ (s 2003) ∧ (s 2003) ≤ 8) ∧ (0 ≤ (s 2002) ∧ (s 2002) ≤ 255) by omega) (show (s 2001) ≤ (s 601) by omega)) ?_
  rintro _ H1 (⟨s25, r26, rfl, rfl, hS25, hW27, f28, b29, k30, k31, k32⟩ | ⟨rfl, hY33, hn34⟩)
  rotate_left
  · exact tt_ax rfl (Or.inr ⟨rfl, cXp_mono (cXp_tr (fk_rf hD) (show fr s s [800, 801, 802, 803, 804, 805, 806, 807, 808, 809, 902, 1705, 1706, 2001, 2002, 2003, 2004, 2005, 2006, 2106, 2107, 2108, 2109, 2110, 2111, 2112, 2113, 2114, 2115, 2116] from fr_rf) ((frp_rf : frp p p []) 8 (by decide)) hY33 (by decide) (by decide)) (by omega), (rq_0 (by have h := hn34; rw [k24] at h; simp only [z8] at h; exact h))⟩)
  show tt Zi d 74 (32, [some (.inr (.inl 21)), some (.inl x), none, none, none, none, none], [.inl r26], n, D, s25, p, c) _
  replace k30 : rdNum A (s 2113) (((r22 - (s 808)) - 1)) (s 808) ((s 2001), (s 2002), (s 2003)) = some (r26, (s25 2001), (s25 2002), (s25 2003)) := k30
  replace k31 : (0 ≤ (s25 2003) ∧ (s25 2003) ≤ 8) ∧ (0 ≤ (s25 2002) ∧ (s25 2002) ≤ 255) := k31
  replace k32 : (s25 2001) ≤ (s 601) := k32
  have b35 : 0 ≤ (s25 2001) ∧ (s25 2001) ≤ 100000 := hS25 2001
  have b36 : 0 ≤ (s25 2002) ∧ (s25 2002) ≤ 255 := hS25 2002
  have b37 : 0 ≤ (s25 2003) ∧ (s25 2003) ≤ 8 := hS25 2003
  have e38 : s25 601 = (s 601) := (f28 601 (by decide))
  have b39 : 0 ≤ (s25 601) ∧ (s25 601) ≤ 32768 := hS25 601
  have e40 : s25 2114 = (s 2114) := (f28 2114 (by decide))
  have b41 : 0 ≤ (s25 2114) ∧ (s25 2114) ≤ 65535 := hS25 2114
  have e42 : s25 2115 = (s 2115) := (f28 2115 (by decide))
  have b43 : 0 ≤ (s25 2115) ∧ (s25 2115) ≤ 1 := hS25 2115
  have e44 : s25 2111 = (s 2111) := (f28 2111 (by decide))
  have b45 : 0 ≤ (s25 2111) ∧ (s25 2111) ≤ 366 := hS25 2111
  have e46 : s25 2116 = (s 2116) := (f28 2116 (by decide))
  have b47 : 0 ≤ (s25 2116) ∧ (s25 2116) ≤ 1 := hS25 2116
  have e48 : s25 2112 = (s 2112) := (f28 2112 (by decide))
  have b49 : 0 ≤ (s25 2112) ∧ (s25 2112) ≤ 1 := hS25 2112
  have e50 : s25 902 = (s 902) := (f28 902 (by decide))
  have b51 : 0 ≤ (s25 902) ∧ (s25 902) ≤ 31 := hS25 902
  have hx52 : tpl A (s25 601) (c (p 600)) := by rw [f28 601 (by decide)]; exact hp0
  have hx53 : zq Z (s25 800) (s25 801) (s25 802) (s25 803) (s25 804) (s25 805) (s25 806) (s25 807) (s25 808) (s25 809) := by rw [f28 800 (by decide), f28 801 (by decide), f28 802 (by decide), f28 803 (by decide), f28 804 (by decide), f28 805 (by decide), f28 806 (by decide), f28 807 (by decide), f28 808 (by decide), f28 809 (by decide)]; exact hp4
  have hnm : (rdNum A (s 2113) (Z 3026 - 1 - jj (s 902) - Z 3025 - 1) (Z 3025) (s 2001, s 2002, s 2003)) = some (r26, s25 2001, s25 2002, s25 2003) := by have h := k30; rw [k24] at h; simp only [z8] at h; exact h
  refine tt_k 8 (S' := (42, [some (.inr (.inl 21)), some (.inl x), some (.inl r26), some (.inl (r26 + (s25 2112))), none, none, none], [.inl 2, .inl (r26 + (s25 2112))], n, D, s25, p, c)) rfl ?_
  refine tt_rmp (x := (r26 + (s25 2112))) (y := 2) rfl (by omega) ?_
  show tt Zi d 74 (43, [some (.inr (.inl 21)), some (.inl x), some (.inl r26), some (.inl (r26 + (s25 2112))), none, none, none], [.inl (((r26 + (s25 2112)) % 2))], n, D, s25, p, c) _
  refine tt_k 1 (S' := (44, [some (.inr (.inl 21)), some (.inl x), some (.inl r26), some (.inl (r26 + (s25 2112))), none, none, none], [.inl 1, .inl (((r26 + (s25 2112)) % 2))], n, D, s25, p, c)) rfl ?_
  have K55 : ∀ (j54 : Int) , (0 ≤ j54 ∧ j54 ≤ 1) → (j54 = (r26 + s 2112) % 2) → (True) → tt Zi d 74 (52, [some (.inr (.inl 21)), some (.inl x), some (.inl r26), some (.inl (r26 + (s25 2112))), none, none, none], [.inl j54], n, D, s25, p, c) (fun R H => (∃ (s' : Nat → Int) (c' : Nat → Nat → Int), R = .inl none ∧ H = (n, D, s', p, c') ∧ bS s' ∧ bC D c' ∧ wp q g n D p s' ∧ fr s s' [902, 2001, 2002, 2003, 2004] ∧ fk p c n p c' [901, 2104] ∧ (∃ m, (rdNum A (s 2113) (Z 3026 - 1 - jj (s 902) - Z 3025 - 1) (Z 3025) (s 2001, s 2002, s 2003)) = some (m, s' 2001, s' 2002, s' 2003) ∧ (-(Z 3024 / 2) ≤ (eT m (s 2112) (s 2116)) ∧ (eT m (s 2112) (s 2116)) ≤ (Z 3024 - 1) / 2) ∧ mrc (mStp Z M (s 2111).toNat (eT m (s 2112) (s 2116)) ((m + 1 - s 2112) / 2)) (c' (p 901)) ∧ c' (p 2104) = ua (c (p 2104)) (x + 1).toNat (rR Z (s 2114) (s 2115) (eT m (s 2112) (s 2116)))) ∧ ((0 ≤ s' 2003 ∧ s' 2003 ≤ 8) ∧ (0 ≤ s' 2002 ∧ s' 2002 ≤ 255)) ∧ (s' 2001 ≤ s 601) ∧ (s' 902 = (if 0 < s 902 then s 902 - 1 else 0))) ∨ (R = .inr 12 ∧ cXp ((q + 1)) g s p c [901, 2104] [800, 801, 802, 803, 804, 805, 806, 807, 808, 809, 902, 1705, 1706, 2001, 2002, 2003, 2004, 2005, 2006, 2106, 2107, 2108, 2109, 2110, 2111, 2112, 2113, 2114, 2115, 2116] H ∧ (rqN Z (fun m => (eT m (s 2112) (s 2116))) (rdNum A (s 2113) (Z 3026 - 1 - jj (s 902) - Z 3025 - 1) (Z 3025) (s 2001, s 2002, s 2003))))) := by
    intro j54 b57 b58 hj56
    refine tt_k 2 (S' := (56, [some (.inr (.inl 21)), some (.inl x), some (.inl r26), some (.inl (r26 + (s25 2112))), none, none, none], [.inl (s25 2116), .inl j54], n, D, s25, p, c)) rfl ?_
    have K60 : ∀ (j59 : Int) , (0 ≤ j59 ∧ j59 ≤ 1) → (j59 = 1 ↔ (((r26 + s 2112) % 2 = 1 ∧ s 2116 ≠ 1) ∨ ((r26 + s 2112) % 2 ≠ 1 ∧ s 2116 = 1))) → (True) → tt Zi d 74 (64, [some (.inr (.inl 21)), some (.inl x), some (.inl r26), some (.inl (r26 + (s25 2112))), none, none, none], [.inl j59], n, D, s25, p, c) (fun R H => (∃ (s' : Nat → Int) (c' : Nat → Nat → Int), R = .inl none ∧ H = (n, D, s', p, c') ∧ bS s' ∧ bC D c' ∧ wp q g n D p s' ∧ fr s s' [902, 2001, 2002, 2003, 2004] ∧ fk p c n p c' [901, 2104] ∧ (∃ m, (rdNum A (s 2113) (Z 3026 - 1 - jj (s 902) - Z 3025 - 1) (Z 3025) (s 2001, s 2002, s 2003)) = some (m, s' 2001, s' 2002, s' 2003) ∧ (-(Z 3024 / 2) ≤ (eT m (s 2112) (s 2116)) ∧ (eT m (s 2112) (s 2116)) ≤ (Z 3024 - 1) / 2) ∧ mrc (mStp Z M (s 2111).toNat (eT m (s 2112) (s 2116)) ((m + 1 - s 2112) / 2)) (c' (p 901)) ∧ c' (p 2104) = ua (c (p 2104)) (x + 1).toNat (rR Z (s 2114) (s 2115) (eT m (s 2112) (s 2116)))) ∧ ((0 ≤ s' 2003 ∧ s' 2003 ≤ 8) ∧ (0 ≤ s' 2002 ∧ s' 2002 ≤ 255)) ∧ (s' 2001 ≤ s 601) ∧ (s' 902 = (if 0 < s 902 then s 902 - 1 else 0))) ∨ (R = .inr 12 ∧ cXp ((q + 1)) g s p c [901, 2104] [800, 801, 802, 803, 804, 805, 806, 807, 808, 809, 902, 1705, 1706, 2001, 2002, 2003, 2004, 2005, 2006, 2106, 2107, 2108, 2109, 2110, 2111, 2112, 2113, 2114, 2115, 2116] H ∧ (rqN Z (fun m => (eT m (s 2112) (s 2116))) (rdNum A (s 2113) (Z 3026 - 1 - jj (s 902) - Z 3025 - 1) (Z 3025) (s 2001, s 2002, s 2003))))) := by
      intro j59 b62 b63 hj61
      refine tt_k 5 (S' := (70, [some (.inr (.inl 21)), some (.inl x), some (.inl r26), some (.inl (r26 + (s25 2112))), some (.inl j59), none, none], [.inl 2, .inl (((r26 + (s25 2112)) + 1))], n, D, s25, p, c)) rfl ?_
      refine tt_dvp (x := ((r26 + (s25 2112)) + 1)) (y := 2) rfl (by omega) ?_
      show tt Zi d 74 (71, [some (.inr (.inl 21)), some (.inl x), some (.inl r26), some (.inl (r26 + (s25 2112))), some (.inl j59), none, none], [.inl ((((r26 + (s25 2112)) + 1) / 2))], n, D, s25, p, c) _
      refine tt_k 2 (S' := (75, [some (.inr (.inl 21)), some (.inl x), some (.inl r26), some (.inl (r26 + (s25 2112))), some (.inl j59), some (.inl ((((r26 + (s25 2112)) + 1) / 2))), none], [.inl j59], n, D, s25, p, c)) rfl ?_
      have K65 : ∀ (j64 : Int) , (-536870912 ≤ j64 ∧ j64 ≤ 536870912) → (j64 = (eT r26 (s 2112) (s 2116))) → (True) → tt Zi d 74 (86, [some (.inr (.inl 21)), some (.inl x), some (.inl r26), some (.inl (r26 + (s25 2112))), some (.inl j59), some (.inl ((((r26 + (s25 2112)) + 1) / 2))), none], [.inl j64], n, D, s25, p, c) (fun R H => (∃ (s' : Nat → Int) (c' : Nat → Nat → Int), R = .inl none ∧ H = (n, D, s', p, c') ∧ bS s' ∧ bC D c' ∧ wp q g n D p s' ∧ fr s s' [902, 2001, 2002, 2003, 2004] ∧ fk p c n p c' [901, 2104] ∧ (∃ m, (rdNum A (s 2113) (Z 3026 - 1 - jj (s 902) - Z 3025 - 1) (Z 3025) (s 2001, s 2002, s 2003)) = some (m, s' 2001, s' 2002, s' 2003) ∧ (-(Z 3024 / 2) ≤ (eT m (s 2112) (s 2116)) ∧ (eT m (s 2112) (s 2116)) ≤ (Z 3024 - 1) / 2) ∧ mrc (mStp Z M (s 2111).toNat (eT m (s 2112) (s 2116)) ((m + 1 - s 2112) / 2)) (c' (p 901)) ∧ c' (p 2104) = ua (c (p 2104)) (x + 1).toNat (rR Z (s 2114) (s 2115) (eT m (s 2112) (s 2116)))) ∧ ((0 ≤ s' 2003 ∧ s' 2003 ≤ 8) ∧ (0 ≤ s' 2002 ∧ s' 2002 ≤ 255)) ∧ (s' 2001 ≤ s 601) ∧ (s' 902 = (if 0 < s 902 then s 902 - 1 else 0))) ∨ (R = .inr 12 ∧ cXp ((q + 1)) g s p c [901, 2104] [800, 801, 802, 803, 804, 805, 806, 807, 808, 809, 902, 1705, 1706, 2001, 2002, 2003, 2004, 2005, 2006, 2106, 2107, 2108, 2109, 2110, 2111, 2112, 2113, 2114, 2115, 2116] H ∧ (rqN Z (fun m => (eT m (s 2112) (s 2116))) (rdNum A (s 2113) (Z 3026 - 1 - jj (s 902) - Z 3025 - 1) (Z 3025) (s 2001, s 2002, s 2003))))) := by
        intro j64 b67 b68 hj66
        refine tt_k 3 (S' := (91, [some (.inr (.inl 21)), some (.inl x), some (.inl r26), some (.inl (r26 + (s25 2112))), some (.inl j59), some (.inl ((((r26 + (s25 2112)) + 1) / 2))), some (.inl j64)], [.inl j64, .inr (.inl 21)], n, D, s25, p, c)) rfl ?_
        have b69 : 0 ≤ (s25 800) ∧ (s25 800) ≤ 65535 := hS25 800
        have b70 : -2147483648 ≤ (s25 801) ∧ (s25 801) ≤ 2147483647 := hS25 801
        have b71 : -2147483648 ≤ (s25 802) ∧ (s25 802) ≤ 2147483647 := hS25 802
        have b72 : -2147483648 ≤ (s25 803) ∧ (s25 803) ≤ 2147483647 := hS25 803
        have b73 : -2147483648 ≤ (s25 804) ∧ (s25 804) ≤ 2147483647 := hS25 804
        have b74 : 0 ≤ (s25 805) ∧ (s25 805) ≤ 65535 := hS25 805
        have b75 : 1 ≤ (s25 806) ∧ (s25 806) ≤ 511 := hS25 806
        have b76 : 0 ≤ (s25 807) ∧ (s25 807) ≤ 65536 := hS25 807
        have b77 : 0 ≤ (s25 808) ∧ (s25 808) ≤ 30 := hS25 808
        have b78 : 0 ≤ (s25 809) ∧ (s25 809) ≤ 64 := hS25 809
        refine tt_cl (by omega) rfl (e_checkError (Zi := Zi) (q := q) (n := n) (D := D) (s := s25) (p := p) (c := c) (by omega) hz (by omega) hD hS25 hC hW27 Z j64 (by omega) hx53 hp5) ?_
        rintro _ H1 (⟨rfl, rfl, k79⟩ | ⟨rfl, hY80, hn81⟩)
        rotate_left
        · exact tt_ax rfl (Or.inr ⟨rfl, cXp_mono (cXp_tr (fk_rf hD) (show fr s s25 [800, 801, 802, 803, 804, 805, 806, 807, 808, 809, 902, 1705, 1706, 2001, 2002, 2003, 2004, 2005, 2006, 2106, 2107, 2108, 2109, 2110, 2111, 2112, 2113, 2114, 2115, 2116] from (fr_tr fr_rf f28 (by decide))) ((frp_rf : frp p p []) 8 (by decide)) hY80 (by decide) (by decide)) (by omega), (rq_1 hnm (by show ¬ (-(Z 3024 / 2) ≤ (eT r26 (s 2112) (s 2116)) ∧ (eT r26 (s 2112) (s 2116)) ≤ (Z 3024 - 1) / 2); rw [← b68]; exact hn81))⟩)
        show tt Zi d 74 (94, [some (.inr (.inl 21)), some (.inl x), some (.inl r26), some (.inl (r26 + (s25 2112))), some (.inl j59), some (.inl ((((r26 + (s25 2112)) + 1) / 2))), some (.inl j64)], [], n, D, s25, p, c) _
        replace k79 : -(Z 3024 / 2) ≤ j64 ∧ j64 ≤ (Z 3024 - 1) / 2 := k79
        have hie : -(Z 3024 / 2) ≤ (eT r26 (s 2112) (s 2116)) ∧ (eT r26 (s 2112) (s 2116)) ≤ (Z 3024 - 1) / 2 := by rw [← b68]; exact k79
        have hnu : r26 ≤ 65536 := eT_nu (by omega) (by omega) hie (by omega)
        refine tt_k 4 (S' := (99, [some (.inr (.inl 21)), some (.inl x), some (.inl r26), some (.inl (r26 + (s25 2112))), some (.inl j59), some (.inl ((((r26 + (s25 2112)) + 1) / 2))), some (.inl j64)], [.inl r26, .inl j64, .inl x, .inr (.inl 21)], n, D, s25, p, c)) rfl ?_
        refine tt_cl (by omega) rfl (u_takeStop (Zi := Zi) (q := q) (n := n) (D := D) (s := s25) (p := p) (c := c) (by omega) hz (by omega) hD hS25 hC hW27 t Z M x j64 r26 (by omega) (by omega) (by omega) hp3 hx53 hp5 hp6 hp7 (show 0 ≤ (s25 2114) ∧ (s25 2114) ≤ Z 3017 by omega) (show 0 ≤ (s25 2112) ∧ (s25 2112) ≤ 1 by omega)) ?_
        rintro _ _ ⟨s82, c83, rfl, rfl, hS82, hC83, hW84, f85, kf86, k87, k88, k89⟩
        have FK90 : fk p c n p c83 [901, 2104] := fk_tr (fk_rf hD) kf86 (by decide)
        show tt Zi d 74 (102, [some (.inr (.inl 21)), some (.inl x), some (.inl r26), some (.inl (r26 + (s25 2112))), some (.inl j59), some (.inl ((((r26 + (s25 2112)) + 1) / 2))), some (.inl j64)], [], n, D, s82, p, c83) _
        replace k89 : (s82 902) = (if 0 < (s25 902) then (s25 902) - 1 else 0) := k89
        have b91 : 0 ≤ (s82 902) ∧ (s82 902) ≤ 31 := hS82 902
        have e92 : s82 601 = (s25 601) := (f85 601 (by decide))
        have b93 : 0 ≤ (s82 601) ∧ (s82 601) ≤ 32768 := hS82 601
        have e94 : s82 2114 = (s25 2114) := (f85 2114 (by decide))
        have b95 : 0 ≤ (s82 2114) ∧ (s82 2114) ≤ 65535 := hS82 2114
        have e96 : s82 2115 = (s25 2115) := (f85 2115 (by decide))
        have b97 : 0 ≤ (s82 2115) ∧ (s82 2115) ≤ 1 := hS82 2115
        have e98 : s82 2111 = (s25 2111) := (f85 2111 (by decide))
        have b99 : 0 ≤ (s82 2111) ∧ (s82 2111) ≤ 366 := hS82 2111
        have e100 : s82 2116 = (s25 2116) := (f85 2116 (by decide))
        have b101 : 0 ≤ (s82 2116) ∧ (s82 2116) ≤ 1 := hS82 2116
        have e102 : s82 2112 = (s25 2112) := (f85 2112 (by decide))
        have b103 : 0 ≤ (s82 2112) ∧ (s82 2112) ≤ 1 := hS82 2112
        have e104 : s82 2001 = (s25 2001) := (f85 2001 (by decide))
        have b105 : 0 ≤ (s82 2001) ∧ (s82 2001) ≤ 100000 := hS82 2001
        have e106 : s82 2002 = (s25 2002) := (f85 2002 (by decide))
        have b107 : 0 ≤ (s82 2002) ∧ (s82 2002) ≤ 255 := hS82 2002
        have e108 : s82 2003 = (s25 2003) := (f85 2003 (by decide))
        have b109 : 0 ≤ (s82 2003) ∧ (s82 2003) ≤ 8 := hS82 2003
        have hx110 : tpl A (s82 601) (c83 (p 600)) := by rw [f85 601 (by decide), fk_k (k := 600) kf86 (by decide)]; exact hx52
        have hx111 : zq Z (s82 800) (s82 801) (s82 802) (s82 803) (s82 804) (s82 805) (s82 806) (s82 807) (s82 808) (s82 809) := by rw [f85 800 (by decide), f85 801 (by decide), f85 802 (by decide), f85 803 (by decide), f85 804 (by decide), f85 805 (by decide), f85 806 (by decide), f85 807 (by decide), f85 808 (by decide), f85 809 (by decide)]; exact hx53
        exact tt_rtv rfl rfl (Or.inl ⟨s82, c83, rfl, rfl, hS82, hC83, hW84, (fr_tr (fr_tr fr_rf f28 (by decide)) f85 (by decide)), FK90, ⟨r26, by show (rdNum A (s 2113) (Z 3026 - 1 - jj (s 902) - Z 3025 - 1) (Z 3025) (s 2001, s 2002, s 2003)) = some (r26, _); rw [hnm, f85 2001 (by decide), f85 2002 (by decide), f85 2003 (by decide)], hie, by have h := k88; rw [b68, f28 2111 (by decide), f28 2112 (by decide)] at h; exact h, by rw [k87, f28 2114 (by decide), f28 2115 (by decide), b68]⟩, by show (0 ≤ (s82 2003) ∧ (s82 2003) ≤ 8) ∧ (0 ≤ (s82 2002) ∧ (s82 2002) ≤ 255); omega, by show (s82 2001) ≤ s 601; omega, by show (s82 902) = (if 0 < s 902 then s 902 - 1 else 0); rw [k89, f28 902 (by decide)]⟩)
      refine tz_eq (x := j59) rfl rfl (by omega) (fun h112 => ?_) (fun h112 => ?_)
      · show tt Zi d 74 (84, [some (.inr (.inl 21)), some (.inl x), some (.inl r26), some (.inl (r26 + (s25 2112))), some (.inl j59), some (.inl ((((r26 + (s25 2112)) + 1) / 2))), none], [], n, D, s25, p, c) _
        refine tt_k 1 (S' := (86, [some (.inr (.inl 21)), some (.inl x), some (.inl r26), some (.inl (r26 + (s25 2112))), some (.inl j59), some (.inl ((((r26 + (s25 2112)) + 1) / 2))), none], [.inl ((((r26 + (s25 2112)) + 1) / 2))], n, D, s25, p, c)) rfl ?_
        exact K65 ((((r26 + (s25 2112)) + 1) / 2))  (by omega) (by unfold eT; first | (rw [if_pos (by omega)]; done) | (rw [if_pos (by omega)]; omega) | (rw [if_neg (by omega)]; done) | (rw [if_neg (by omega)]; omega)) (trivial)
      · show tt Zi d 74 (78, [some (.inr (.inl 21)), some (.inl x), some (.inl r26), some (.inl (r26 + (s25 2112))), some (.inl j59), some (.inl ((((r26 + (s25 2112)) + 1) / 2))), none], [], n, D, s25, p, c) _
        refine tt_k 3 (S' := (86, [some (.inr (.inl 21)), some (.inl x), some (.inl r26), some (.inl (r26 + (s25 2112))), some (.inl j59), some (.inl ((((r26 + (s25 2112)) + 1) / 2))), none], [.inl ((-(((r26 + (s25 2112)) + 1) / 2)))], n, D, s25, p, c)) rfl ?_
        exact K65 ((-(((r26 + (s25 2112)) + 1) / 2)))  (by omega) (by unfold eT; first | (rw [if_pos (by omega)]; done) | (rw [if_pos (by omega)]; omega) | (rw [if_neg (by omega)]; done) | (rw [if_neg (by omega)]; omega)) (trivial)
    refine tb_eq (x := j54) (y := (s25 2116)) rfl rfl (by omega) (fun h113 => ?_) (fun h113 => ?_)
    · show tt Zi d 74 (63, [some (.inr (.inl 21)), some (.inl x), some (.inl r26), some (.inl (r26 + (s25 2112))), none, none, none], [], n, D, s25, p, c) _
      refine tt_k 1 (S' := (64, [some (.inr (.inl 21)), some (.inl x), some (.inl r26), some (.inl (r26 + (s25 2112))), none, none, none], [.inl 0], n, D, s25, p, c)) rfl ?_
      exact K60 0  (by omega) (by omega) (trivial)
    · show tt Zi d 74 (59, [some (.inr (.inl 21)), some (.inl x), some (.inl r26), some (.inl (r26 + (s25 2112))), none, none, none], [], n, D, s25, p, c) _
      refine tt_k 2 (S' := (64, [some (.inr (.inl 21)), some (.inl x), some (.inl r26), some (.inl (r26 + (s25 2112))), none, none, none], [.inl 1], n, D, s25, p, c)) rfl ?_
      exact K60 1  (by omega) (by omega) (trivial)
  refine tb_ne (x := ((r26 + (s25 2112)) % 2)) (y := 1) rfl rfl (by omega) (fun h114 => ?_) (fun h114 => ?_)
  · show tt Zi d 74 (51, [some (.inr (.inl 21)), some (.inl x), some (.inl r26), some (.inl (r26 + (s25 2112))), none, none, none], [], n, D, s25, p, c) _
    refine tt_k 1 (S' := (52, [some (.inr (.inl 21)), some (.inl x), some (.inl r26), some (.inl (r26 + (s25 2112))), none, none, none], [.inl 0], n, D, s25, p, c)) rfl ?_
    exact K55 0  (by omega) (by omega) (trivial)
  · show tt Zi d 74 (47, [some (.inr (.inl 21)), some (.inl x), some (.inl r26), some (.inl (r26 + (s25 2112))), none, none, none], [], n, D, s25, p, c) _
    refine tt_k 2 (S' := (52, [some (.inr (.inl 21)), some (.inl x), some (.inl r26), some (.inl (r26 + (s25 2112))), none, none, none], [.inl 1], n, D, s25, p, c)) rfl ?_
    exact K55 1  (by omega) (by omega) (trivial)
set_option maxRecDepth 100000 in
set_option maxHeartbeats 4000000 in
theorem u_tellRun_L9 {g : Nat → Int} {Zi : Nat → Option (Nat × (Nat → Int))} {d n q : Nat} {D : Nat → Nat × Nat} {s : Nat → Int} {p : Nat → Nat} {c : Nat → Nat → Int}  {Q : mi_Rs → mi_H → Prop} (hd : 6 ≤ d) (hz : zk Zi) (hq : q + 12 ≤ 400001) (hD : wd n p) (hS : bS s) (hC : bC D c) (hW : wp q g n D p s) (A : TN) (RR : Option (Int × Int × RDT)) (x : Int) (ro : Int) (b_x : 0 ≤ x ∧ x ≤ 63) (b_ro : 1 ≤ ro ∧ ro ≤ 64) (hq0 : tpl A (s 601) (c (p 600))) (hX12 : ∀ H, cXp (q + 1) g s p c [2104] [800, 801, 802, 803, 804, 805, 806, 807, 808, 809, 902, 1705, 1706, 2001, 2002, 2003, 2004, 2005, 2006, 2106, 2107, 2108, 2109, 2110, 2111, 2112, 2113, 2114, 2115, 2116] H → (RR = none) → Q (.inr 12) H)
  (hK : ∀ (n_ : Int) (o_4 : Option mi_V) (s0 : Nat → Int) (b_n_ : 0 ≤ n_ ∧ n_ ≤ 64) (hS0 : bS s0) (hF0 : fr s s0 [902, 2001, 2002, 2003]) (hW0 : wp q g n D p s0) (i0 : ((s0 902 ≤ 22 ∧ 0 ≤ s0 902) ∧ ((0 ≤ s0 2003 ∧ s0 2003 ≤ 8) ∧ (0 ≤ s0 2002 ∧ s0 2002 ≤ 255)) ∧ s0 2001 ≤ s 601) ∧ n_ ≤ ro) (i1 : uX A ro RR n_ (s0 902) (s0 2001, s0 2002, s0 2003)) (i2 : True), (True) → tt Zi d 66 (66, [some (.inr (.inl 21)), some (.inl x), some (.inl ro), some (.inl n_), o_4], [], n, D, s0, p, c) Q) :
  ∀ (m : Nat) (n_ : Int) (o_4 : Option mi_V) (s0 : Nat → Int) (b_n_ : 0 ≤ n_ ∧ n_ ≤ 64) (hS0 : bS s0) (hF0 : fr s s0 [902, 2001, 2002, 2003]) (hW0 : wp q g n D p s0) (i0 : ((s0 902 ≤ 22 ∧ 0 ≤ s0 902) ∧ ((0 ≤ s0 2003 ∧ s0 2003 ≤ 8) ∧ (0 ≤ s0 2002 ∧ s0 2002 ≤ 255)) ∧ s0 2001 ≤ s 601) ∧ n_ ≤ ro) (i1 : uI A ro RR n_ (s0 902) (s0 2001, s0 2002, s0 2003)) (i2 : True), (ro - n_).toNat < m → tt Zi d 66 (9, [some (.inr (.inl 21)), some (.inl x), some (.inl ro), some (.inl n_), o_4], [], n, D, s0, p, c) Q := by
  intro m
  induction m with
  | zero => intro n_ o_4 s0 b_n_ hS0 hF0 hW0 i0 i1 i2 hm; exact absurd hm (by omega)
  | succ m ih =>
    intro n_ o_4 s0 b_n_ hS0 hF0 hW0 i0 i1 i2 hm
    have e1 : s0 601 = s 601 := hF0 601 (by decide)
    have b2 : 0 ≤ (s0 601) ∧ (s0 601) ≤ 32768 := hS0 601
    have b3 : 0 ≤ (s 601) ∧ (s 601) ≤ 32768 := hS 601
    have e4 : s0 2106 = s 2106 := hF0 2106 (by decide)
    have b5 : 0 ≤ (s0 2106) ∧ (s0 2106) ≤ 64 := hS0 2106
    have b6 : 0 ≤ (s 2106) ∧ (s 2106) ≤ 64 := hS 2106
    have e7 : s0 2108 = s 2108 := hF0 2108 (by decide)
    have b8 : 0 ≤ (s0 2108) ∧ (s0 2108) ≤ 65535 := hS0 2108
    have b9 : 0 ≤ (s 2108) ∧ (s 2108) ≤ 65535 := hS 2108
    have htp : tpl A (s0 601) (c (p 600)) := by rw [hF0 601 (by decide)]; exact hq0
    have b10 : 0 ≤ (s0 2001) ∧ (s0 2001) ≤ 100000 := hS0 2001
    have b11 : 0 ≤ (s0 2002) ∧ (s0 2002) ≤ 255 := hS0 2002
    have b12 : 0 ≤ (s0 2003) ∧ (s0 2003) ≤ 8 := hS0 2003
    have b13 : 0 ≤ (s0 902) ∧ (s0 902) ≤ 31 := hS0 902
    have hj0 := jj_bd (p := s0 902) (by omega)
    have hpj := mi_pw (a := (jj (s0 902)).toNat) (b := 15) (by omega)
    have hp15 : (2 : Int) ^ 15 = 32768 := by decide
    have hp1 : (1 : Int) ≤ 2 ^ (jj (s0 902)).toNat := Int.pow_pos (by decide)
    refine tt_k 2 (S' := (11, [some (.inr (.inl 21)), some (.inl x), some (.inl ro), some (.inl n_), o_4], [.inl ro, .inl n_], n, D, s0, p, c)) rfl ?_
    refine tb_ge (x := n_) (y := ro) rfl rfl (by omega) (fun h14 => ?_) (fun h14 => ?_)
    · show tt Zi d 66 (66, [some (.inr (.inl 21)), some (.inl x), some (.inl ro), some (.inl n_), o_4], [], n, D, s0, p, c) _
      exact hK n_ (o_4) s0 (by omega) hS0 hF0 hW0 (show (((s0 902) ≤ 22 ∧ 0 ≤ (s0 902)) ∧ ((0 ≤ (s0 2003) ∧ (s0 2003) ≤ 8) ∧ (0 ≤ (s0 2002) ∧ (s0 2002) ≤ 255)) ∧ (s0 2001) ≤ s 601) ∧ n_ ≤ ro by omega) (Or.inl ⟨by omega, uI_e i1 (by omega) (by omega)⟩) trivial trivial
    · show tt Zi d 66 (14, [some (.inr (.inl 21)), some (.inl x), some (.inl ro), some (.inl n_), o_4], [], n, D, s0, p, c) _
      refine tt_k 3 (S' := (19, [some (.inr (.inl 21)), some (.inl x), some (.inl ro), some (.inl n_), o_4], [.inl 1, .inr (.inl 20)], n, D, s0, p, c)) rfl ?_
      refine tt_cl (by omega) rfl (e_readBits (Zi := Zi) (q := q) (n := n) (D := D) (s := s0) (p := p) (c := c) (by omega) hz (by omega) hD hS0 hC hW0 A 1 (by omega) htp (show (0 ≤ (s0 2003) ∧ (s0 2003) ≤ 8) ∧ (0 ≤ (s0 2002) ∧ (s0 2002) ≤ 255) by omega) (show (s0 2001) ≤ (s0 601) by omega)) ?_
      rintro _ H1 (⟨s15, r16, rfl, rfl, hS15, hW17, f18, b19, k20, k21, k22, k23⟩ | ⟨rfl, hY24, hn25⟩)
      rotate_left
      · exact tt_ax rfl (hX12 _ (cXp_mono (cXp_tr (fk_rf hD) (fr_wk (show fr s s0 [902, 2001, 2002, 2003] from hF0) (by decide)) ((frp_rf : frp p p []) 8 (by decide)) hY24 (by decide) (by decide)) (by omega)) (uI_n i1 (by omega) (rdBs_1n hn25)))
      show tt Zi d 66 (22, [some (.inr (.inl 21)), some (.inl x), some (.inl ro), some (.inl n_), o_4], [.inl r16], n, D, s15, p, c) _
      replace k20 : rdBs A (1 : Int).toNat 0 ((s0 2001), (s0 2002), (s0 2003)) = some (r16, (s15 2001), (s15 2002), (s15 2003)) := k20
      replace k21 : r16 < 2 ^ (1 : Int).toNat := k21
      replace k22 : (0 ≤ (s15 2003) ∧ (s15 2003) ≤ 8) ∧ (0 ≤ (s15 2002) ∧ (s15 2002) ≤ 255) := k22
      replace k23 : (s15 2001) ≤ (s0 601) := k23
      have b26 : 0 ≤ (s15 2001) ∧ (s15 2001) ≤ 100000 := hS15 2001
      have b27 : 0 ≤ (s15 2002) ∧ (s15 2002) ≤ 255 := hS15 2002
      have b28 : 0 ≤ (s15 2003) ∧ (s15 2003) ≤ 8 := hS15 2003
      have e29 : s15 601 = (s0 601) := (f18 601 (by decide))
      have b30 : 0 ≤ (s15 601) ∧ (s15 601) ≤ 32768 := hS15 601
      have e31 : s15 2106 = (s0 2106) := (f18 2106 (by decide))
      have b32 : 0 ≤ (s15 2106) ∧ (s15 2106) ≤ 64 := hS15 2106
      have e33 : s15 902 = (s0 902) := (f18 902 (by decide))
      have b34 : 0 ≤ (s15 902) ∧ (s15 902) ≤ 31 := hS15 902
      have e35 : s15 2108 = (s0 2108) := (f18 2108 (by decide))
      have b36 : 0 ≤ (s15 2108) ∧ (s15 2108) ≤ 65535 := hS15 2108
      have hx37 : tpl A (s15 601) (c (p 600)) := by rw [f18 601 (by decide)]; exact htp
      have b38 : r16 < 2 := k21
      refine tt_k 1 (S' := (23, [some (.inr (.inl 21)), some (.inl x), some (.inl ro), some (.inl n_), o_4], [.inl 1, .inl r16], n, D, s15, p, c)) rfl ?_
      refine tb_ne (x := r16) (y := 1) rfl rfl (by omega) (fun h39 => ?_) (fun h39 => ?_)
      · show tt Zi d 66 (66, [some (.inr (.inl 21)), some (.inl x), some (.inl ro), some (.inl n_), o_4], [], n, D, s15, p, c) _
        have h9 : s15 902 = s0 902 := by omega
        exact hK n_ (o_4) s15 (by omega) hS15 (fr_tr hF0 f18 (by decide)) hW17 (show (((s15 902) ≤ 22 ∧ 0 ≤ (s15 902)) ∧ ((0 ≤ (s15 2003) ∧ (s15 2003) ≤ 8) ∧ (0 ≤ (s15 2002) ∧ (s15 2002) ≤ 255)) ∧ (s15 2001) ≤ s 601) ∧ n_ ≤ ro by omega) (Or.inr ⟨by omega, by rw [h9]; exact uI_0 i1 (by omega) (rdBs_1 k20) (by omega)⟩) trivial trivial
      · show tt Zi d 66 (26, [some (.inr (.inl 21)), some (.inl x), some (.inl ro), some (.inl n_), o_4], [], n, D, s15, p, c) _
        refine tt_k 3 (S' := (31, [some (.inr (.inl 21)), some (.inl x), some (.inl ro), some (.inl n_), o_4], [.inr (.inl 9), .inl 1], n, D, s15, p, c)) rfl ?_
        refine tt_cl (by omega) rfl (e_runBits (Zi := Zi) (q := q) (n := n) (D := D) (s := s15) (p := p) (c := c) (by omega) hz (by omega) hD hS15 hC hW17 ) ?_
        rintro _ _ ⟨r40, rfl, rfl, b41, k42⟩
        show tt Zi d 66 (34, [some (.inr (.inl 21)), some (.inl x), some (.inl ro), some (.inl n_), o_4], [.inl r40, .inl 1], n, D, s15, p, c) _
        replace k42 : r40 = jj ((s15 902)) := k42
        refine tt_k 6 (S' := (42, [some (.inr (.inl 21)), some (.inl x), some (.inl ro), some (.inl n_), some (.inl (mi_shl 1 r40))], [.inl (ro - n_), .inl (mi_shl 1 r40)], n, D, s15, p, c)) rfl ?_
        have e43 : 1 ≤ (mi_shl 1 r40) ∧ (mi_shl 1 r40) ≤ 32768 := mi_shl1b 0 15 (by omega) (by omega) (by decide)
        refine tb_gt (x := (mi_shl 1 r40)) (y := (ro - n_)) rfl rfl (by omega) (fun h44 => ?_) (fun h44 => ?_)
        · show tt Zi d 66 (52, [some (.inr (.inl 21)), some (.inl x), some (.inl ro), some (.inl n_), some (.inl (mi_shl 1 r40))], [], n, D, s15, p, c) _
          refine tt_k 5 (S' := (58, [some (.inr (.inl 21)), some (.inl x), some (.inl ro), some (.inl n_), some (.inl (mi_shl 1 r40))], [.inl (ro - n_), .inl (mi_shl 1 r40), .inl n_], n, D, s15, p, c)) rfl ?_
          refine tt_min (k := 0) (x := (mi_shl 1 r40)) (y := (ro - n_)) rfl rfl (Nat.le_of_ble_eq_true rfl) (by omega) ?_
          refine tt_k 3 (S' := (9, [some (.inr (.inl 21)), some (.inl x), some (.inl ro), some (.inl ((n_ + (min (mi_shl 1 r40) (ro - n_))))), some (.inl (mi_shl 1 r40))], [], n, D, s15, p, c)) rfl ?_
          have hdo : mi_shl 1 r40 = 2 ^ (jj (s0 902)).toNat := by rw [mi_shl1i (by omega) (by omega), k42, show s15 902 = s0 902 by omega]
          have hu := uI_s i1 (by omega) (show rdBit A (s0 2001, s0 2002, s0 2003) = some (1, _) by have h := rdBs_1 k20; rw [show r16 = 1 by omega] at h; exact h)
          rw [← hdo] at hu
          rw [if_neg (show ¬ mi_shl 1 r40 ≤ ro - n_ by omega)] at hu
          rw [← show s15 902 = s0 902 by omega] at hu
          exact ih ((n_ + (min (mi_shl 1 r40) (ro - n_)))) (some (.inl (mi_shl 1 r40))) s15 (by omega) hS15 (fr_tr hF0 f18 (by decide)) hW17 (show (((s15 902) ≤ 22 ∧ 0 ≤ (s15 902)) ∧ ((0 ≤ (s15 2003) ∧ (s15 2003) ≤ 8) ∧ (0 ≤ (s15 2002) ∧ (s15 2002) ≤ 255)) ∧ (s15 2001) ≤ s 601) ∧ ((n_ + (min (mi_shl 1 r40) (ro - n_)))) ≤ ro by omega) (by have h := hu; exact h) trivial (show (ro - ((n_ + (min (mi_shl 1 r40) (ro - n_))))).toNat < m by omega)
        · show tt Zi d 66 (45, [some (.inr (.inl 21)), some (.inl x), some (.inl ro), some (.inl n_), some (.inl (mi_shl 1 r40))], [], n, D, s15, p, c) _
          refine tt_k 2 (S' := (49, [some (.inr (.inl 21)), some (.inl x), some (.inl ro), some (.inl n_), some (.inl (mi_shl 1 r40))], [.inr (.inl 9)], n, D, s15, p, c)) rfl ?_
          refine tt_cl (by omega) rfl (e_quicken (Zi := Zi) (q := q) (n := n) (D := D) (s := s15) (p := p) (c := c) (by omega) hz (by omega) hD hS15 hC hW17 ) ?_
          rintro _ _ ⟨s45, rfl, rfl, hS45, hW46, f47, k48⟩
          show tt Zi d 66 (52, [some (.inr (.inl 21)), some (.inl x), some (.inl ro), some (.inl n_), some (.inl (mi_shl 1 r40))], [], n, D, s45, p, c) _
          replace k48 : (s45 902) = min 31 ((s15 902) + 1) := k48
          have b49 : 0 ≤ (s45 902) ∧ (s45 902) ≤ 31 := hS45 902
          have e50 : s45 601 = (s15 601) := (f47 601 (by decide))
          have b51 : 0 ≤ (s45 601) ∧ (s45 601) ≤ 32768 := hS45 601
          have e52 : s45 2106 = (s15 2106) := (f47 2106 (by decide))
          have b53 : 0 ≤ (s45 2106) ∧ (s45 2106) ≤ 64 := hS45 2106
          have e54 : s45 2001 = (s15 2001) := (f47 2001 (by decide))
          have b55 : 0 ≤ (s45 2001) ∧ (s45 2001) ≤ 100000 := hS45 2001
          have e56 : s45 2002 = (s15 2002) := (f47 2002 (by decide))
          have b57 : 0 ≤ (s45 2002) ∧ (s45 2002) ≤ 255 := hS45 2002
          have e58 : s45 2003 = (s15 2003) := (f47 2003 (by decide))
          have b59 : 0 ≤ (s45 2003) ∧ (s45 2003) ≤ 8 := hS45 2003
          have e60 : s45 2108 = (s15 2108) := (f47 2108 (by decide))
          have b61 : 0 ≤ (s45 2108) ∧ (s45 2108) ≤ 65535 := hS45 2108
          have hx62 : tpl A (s45 601) (c (p 600)) := by rw [f47 601 (by decide)]; exact hx37
          refine tt_k 5 (S' := (58, [some (.inr (.inl 21)), some (.inl x), some (.inl ro), some (.inl n_), some (.inl (mi_shl 1 r40))], [.inl (ro - n_), .inl (mi_shl 1 r40), .inl n_], n, D, s45, p, c)) rfl ?_
          refine tt_min (k := 0) (x := (mi_shl 1 r40)) (y := (ro - n_)) rfl rfl (Nat.le_of_ble_eq_true rfl) (by omega) ?_
          refine tt_k 3 (S' := (9, [some (.inr (.inl 21)), some (.inl x), some (.inl ro), some (.inl ((n_ + (min (mi_shl 1 r40) (ro - n_))))), some (.inl (mi_shl 1 r40))], [], n, D, s45, p, c)) rfl ?_
          have hdo : mi_shl 1 r40 = 2 ^ (jj (s0 902)).toNat := by rw [mi_shl1i (by omega) (by omega), k42, show s15 902 = s0 902 by omega]
          have hu := uI_s i1 (by omega) (show rdBit A (s0 2001, s0 2002, s0 2003) = some (1, _) by have h := rdBs_1 k20; rw [show r16 = 1 by omega] at h; exact h)
          rw [← hdo] at hu
          rw [if_pos (show mi_shl 1 r40 ≤ ro - n_ by omega)] at hu
          rw [← show s45 902 = min 31 (s0 902 + 1) by omega] at hu
          have hj6 := jj_le6 (p := s0 902) (by omega) (by have h7 := jj_7 (p := s0 902) (by omega); omega)
          exact ih ((n_ + (min (mi_shl 1 r40) (ro - n_)))) (some (.inl (mi_shl 1 r40))) s45 (by omega) hS45 (fr_tr (fr_tr hF0 f18 (by decide)) f47 (by decide)) hW46 (show (((s45 902) ≤ 22 ∧ 0 ≤ (s45 902)) ∧ ((0 ≤ (s45 2003) ∧ (s45 2003) ≤ 8) ∧ (0 ≤ (s45 2002) ∧ (s45 2002) ≤ 255)) ∧ (s45 2001) ≤ s 601) ∧ ((n_ + (min (mi_shl 1 r40) (ro - n_)))) ≤ ro by omega) (by have h := hu; rw [← show s45 2001 = s15 2001 by omega, ← show s45 2002 = s15 2002 by omega, ← show s45 2003 = s15 2003 by omega] at h; exact h) trivial (show (ro - ((n_ + (min (mi_shl 1 r40) (ro - n_))))).toNat < m by omega)
set_option maxRecDepth 100000 in
set_option maxHeartbeats 4000000 in
theorem u_tellRun {g : Nat → Int} {Zi : Nat → Option (Nat × (Nat → Int))} {d n q : Nat} {D : Nat → Nat × Nat} {s : Nat → Int} {p : Nat → Nat} {c : Nat → Nat → Int} (hd : 6 ≤ d) (hz : zk Zi) (hq : q + 12 ≤ 400000) (hD : wd n p) (hS : bS s) (hC : bC D c) (hW : wp q g n D p s) (A : TN) (x : Int) (b_x : 0 ≤ x ∧ x ≤ 63) (hp0 : tpl A (s 601) (c (p 600))) (hp1 : (0 ≤ s 2003 ∧ s 2003 ≤ 8) ∧ (0 ≤ s 2002 ∧ s 2002 ≤ 255)) (hp2 : s 2001 ≤ s 601) (hp3 : x < s 2106) (hp4 : s 902 ≤ 22) : tt Zi d 66 (0, [some (.inr (.inl 21)), some (.inl x), none, none, none], [], n, D, s, p, c) (fun R H => (∃ (s' : Nat → Int) (c' : Nat → Nat → Int) (r : Int), R = .inl (some (.inl r)) ∧ H = (n, D, s', p, c') ∧ bS s' ∧ bC D c' ∧ wp q g n D p s' ∧ fr s s' [902, 2001, 2002, 2003] ∧ fk p c n p c' [2104] ∧ (0 ≤ r ∧ r ≤ 64) ∧ (x + r ≤ s 2106) ∧ ((rRun A (s 2106 - x) 70 0 (s 902) (s 2001, s 2002, s 2003)) = some (r, s' 902, s' 2001, s' 2002, s' 2003)) ∧ (rwm (fil (c (p 2104)) (x + 1).toNat r (s 2108)) (c' (p 2104))) ∧ ((0 ≤ s' 2003 ∧ s' 2003 ≤ 8) ∧ (0 ≤ s' 2002 ∧ s' 2002 ≤ 255)) ∧ (s' 2001 ≤ s 601) ∧ (0 ≤ s' 902 ∧ s' 902 ≤ 22)) ∨ (R = .inr 12 ∧ cXp ((q + 1)) g s p c [2104] [800, 801, 802, 803, 804, 805, 806, 807, 808, 809, 902, 1705, 1706, 2001, 2002, 2003, 2004, 2005, 2006, 2106, 2107, 2108, 2109, 2110, 2111, 2112, 2113, 2114, 2115, 2116] H ∧ ((rRun A (s 2106 - x) 70 0 (s 902) (s 2001, s 2002, s 2003)) = none))) := by
  have b1 : 0 ≤ (s 2106) ∧ (s 2106) ≤ 64 := hS 2106
  have b2 : 0 ≤ (s 902) ∧ (s 902) ≤ 31 := hS 902
  refine tt_k 7 (S' := (9, [some (.inr (.inl 21)), some (.inl x), some (.inl ((s 2106) - x)), some (.inl 0), none], [], n, D, s, p, c)) rfl ?_
  have b3 : 0 ≤ (s 601) ∧ (s 601) ≤ 32768 := hS 601
  refine u_tellRun_L9 (Zi := Zi) (q := q) (n := n) (D := D) (s := s) (p := p) (c := c) hd hz (by omega) hD hS hC hW A (rRun A (s 2106 - x) 70 0 (s 902) (s 2001, s 2002, s 2003)) x ((s 2106) - x) (by omega) (by omega) hp0 (fun H h hq9 => (Or.inr ⟨rfl, cXp_mono (cXp_tr (fk_rf hD) (show fr s s [800, 801, 802, 803, 804, 805, 806, 807, 808, 809, 902, 1705, 1706, 2001, 2002, 2003, 2004, 2005, 2006, 2106, 2107, 2108, 2109, 2110, 2111, 2112, 2113, 2114, 2115, 2116] from fr_rf) ((frp_rf : frp p p []) 8 (by decide)) h (by decide) (by decide)) (by omega), (show (rRun A (s 2106 - x) 70 0 (s 902) (s 2001, s 2002, s 2003)) = none from hq9)⟩)) ?_ _ 0 (none) s (by omega) hS fr_rf hW (show ((((s 902)) ≤ 22 ∧ 0 ≤ ((s 902))) ∧ ((0 ≤ ((s 2003)) ∧ ((s 2003)) ≤ 8) ∧ (0 ≤ ((s 2002)) ∧ ((s 2002)) ≤ 255)) ∧ ((s 2001)) ≤ (s 601)) ∧ 0 ≤ ((s 2106) - x) by omega) ⟨70, by omega, rfl⟩ trivial (Nat.lt_succ_self _)
  intro x4 x5 s6 b7 hS6 f8 hW9 i10 i11 i12 hx13
  show tt Zi d 66 (66, [some (.inr (.inl 21)), some (.inl x), some (.inl ((s 2106) - x)), some (.inl x4), x5], [], n, D, s6, p, c) _
  replace i10 : (((s6 902) ≤ 22 ∧ 0 ≤ (s6 902)) ∧ ((0 ≤ (s6 2003) ∧ (s6 2003) ≤ 8) ∧ (0 ≤ (s6 2002) ∧ (s6 2002) ≤ 255)) ∧ (s6 2001) ≤ (s 601)) ∧ x4 ≤ ((s 2106) - x) := i10
  have b14 : 0 ≤ (s6 902) ∧ (s6 902) ≤ 31 := hS6 902
  have b15 : 0 ≤ (s6 2003) ∧ (s6 2003) ≤ 8 := hS6 2003
  have b16 : 0 ≤ (s6 2002) ∧ (s6 2002) ≤ 255 := hS6 2002
  have b17 : 0 ≤ (s6 2001) ∧ (s6 2001) ≤ 100000 := hS6 2001
  replace i11 : uX A ((s 2106) - x) (rRun A (s 2106 - x) 70 0 (s 902) (s 2001, s 2002, s 2003)) x4 ((s6 902)) ((s6 2001), (s6 2002), (s6 2003)) := i11
  have e18 : s6 601 = (s 601) := (f8 601 (by decide))
  have b19 : 0 ≤ (s6 601) ∧ (s6 601) ≤ 32768 := hS6 601
  have e20 : s6 2106 = (s 2106) := (f8 2106 (by decide))
  have b21 : 0 ≤ (s6 2106) ∧ (s6 2106) ≤ 64 := hS6 2106
  have e22 : s6 2108 = (s 2108) := (f8 2108 (by decide))
  have b23 : 0 ≤ (s6 2108) ∧ (s6 2108) ≤ 65535 := hS6 2108
  have b24 : 0 ≤ (s 2108) ∧ (s 2108) ≤ 65535 := hS 2108
  have hx25 : tpl A (s6 601) (c (p 600)) := by rw [f8 601 (by decide)]; exact hp0
  refine tt_k 2 (S' := (68, [some (.inr (.inl 21)), some (.inl x), some (.inl ((s 2106) - x)), some (.inl x4), x5], [.inl ((s 2106) - x), .inl x4], n, D, s6, p, c)) rfl ?_
  refine tb_ge (x := x4) (y := ((s 2106) - x)) rfl rfl (by omega) (fun h26 => ?_) (fun h26 => ?_)
  · show tt Zi d 66 (113, [some (.inr (.inl 21)), some (.inl x), some (.inl ((s 2106) - x)), some (.inl x4), x5], [], n, D, s6, p, c) _
    refine tt_k 3 (S' := (116, [some (.inr (.inl 21)), some (.inl x), some (.inl ((s 2106) - x)), some (.inl x4), x5], [.inl x4, .inl x, .inr (.inl 21)], n, D, s6, p, c)) rfl ?_
    refine tt_cl (by omega) rfl (u_setRun (Zi := Zi) (q := q) (n := n) (D := D) (s := s6) (p := p) (c := c) (by omega) hz (by omega) hD hS6 hC hW9 x x4 (by omega) (by omega) (show x + x4 ≤ 65 by omega)) ?_
    rintro _ _ ⟨c27, rfl, rfl, hC27, kf28, k29⟩
    have FK30 : fk p c n p c27 [2104] := fk_tr (fk_rf hD) kf28 (by decide)
    show tt Zi d 66 (119, [some (.inr (.inl 21)), some (.inl x), some (.inl ((s 2106) - x)), some (.inl x4), x5], [], n, D, s6, p, c27) _
    have hx31 : tpl A (s6 601) (c27 (p 600)) := by rw [fk_k (k := 600) kf28 (by decide)]; exact hx25
    refine tt_k 1 (S' := (120, [some (.inr (.inl 21)), some (.inl x), some (.inl ((s 2106) - x)), some (.inl x4), x5], [.inl x4], n, D, s6, p, c27)) rfl ?_
    exact tt_rti rfl rfl (Or.inl ⟨s6, c27, x4, rfl, rfl, hS6, hC27, hW9, (fr_tr fr_rf f8 (by decide)), FK30, by omega, by show x + x4 ≤ s 2106; omega, by show (rRun A (s 2106 - x) 70 0 (s 902) (s 2001, s 2002, s 2003)) = some (x4, (s6 902), (s6 2001), (s6 2002), (s6 2003)); exact run_e i11 (by omega), by show rwm (fil (c (p 2104)) (x + 1).toNat x4 (s 2108)) (c27 (p 2104)); have h := k29; rw [show s6 2108 = s 2108 by omega] at h; exact h, by show (0 ≤ (s6 2003) ∧ (s6 2003) ≤ 8) ∧ (0 ≤ (s6 2002) ∧ (s6 2002) ≤ 255); omega, by show (s6 2001) ≤ s 601; omega, by show 0 ≤ (s6 902) ∧ (s6 902) ≤ 22; omega⟩)
  · show tt Zi d 66 (71, [some (.inr (.inl 21)), some (.inl x), some (.inl ((s 2106) - x)), some (.inl x4), x5], [], n, D, s6, p, c) _
    refine tt_k 2 (S' := (75, [some (.inr (.inl 21)), some (.inl x), some (.inl ((s 2106) - x)), some (.inl x4), x5], [.inr (.inl 20)], n, D, s6, p, c)) rfl ?_
    refine tt_cl (by omega) rfl (g_openPlace (Zi := Zi) (q := q) (n := n) (D := D) (s := s6) (p := p) (c := c) (by omega) hz (by omega) hD hS6 hC hW9 ) ?_
    rintro _ _ ⟨r32, rfl, rfl, b33, k34⟩
    show tt Zi d 66 (78, [some (.inr (.inl 21)), some (.inl x), some (.inl ((s 2106) - x)), some (.inl x4), x5], [.inl r32], n, D, s6, p, c) _
    replace k34 : r32 = (s6 2001) - 1 := k34
    refine tt_k 6 (S' := (89, [some (.inr (.inl 21)), some (.inl x), some (.inl ((s 2106) - x)), some (.inl x4), some (.inl r32)], [.inr (.inl 9), .inr (.inl 20), .inl x4], n, D, s6, p, c)) rfl ?_
    refine tt_cl (by omega) rfl (e_runBits (Zi := Zi) (q := q) (n := n) (D := D) (s := s6) (p := p) (c := c) (by omega) hz (by omega) hD hS6 hC hW9 ) ?_
    rintro _ _ ⟨r35, rfl, rfl, b36, k37⟩
    show tt Zi d 66 (92, [some (.inr (.inl 21)), some (.inl x), some (.inl ((s 2106) - x)), some (.inl x4), some (.inl r32)], [.inl r35, .inr (.inl 20), .inl x4], n, D, s6, p, c) _
    replace k37 : r35 = jj ((s6 902)) := k37
    refine tt_cl (by omega) rfl (e_readBits (Zi := Zi) (q := q) (n := n) (D := D) (s := s6) (p := p) (c := c) (by omega) hz (by omega) hD hS6 hC hW9 A r35 (by omega) hx25 (show (0 ≤ (s6 2003) ∧ (s6 2003) ≤ 8) ∧ (0 ≤ (s6 2002) ∧ (s6 2002) ≤ 255) by omega) (show (s6 2001) ≤ (s6 601) by omega)) ?_
    rintro _ H1 (⟨s38, r39, rfl, rfl, hS38, hW40, f41, b42, k43, k44, k45, k46⟩ | ⟨rfl, hY47, hn48⟩)
    rotate_left
    · exact tt_ax rfl (Or.inr ⟨rfl, cXp_mono (cXp_tr (fk_rf hD) (show fr s s6 [800, 801, 802, 803, 804, 805, 806, 807, 808, 809, 902, 1705, 1706, 2001, 2002, 2003, 2004, 2005, 2006, 2106, 2107, 2108, 2109, 2110, 2111, 2112, 2113, 2114, 2115, 2116] from (fr_tr fr_rf f8 (by decide))) ((frp_rf : frp p p []) 8 (by decide)) hY47 (by decide) (by decide)) (by omega), (run_n i11 (by omega) (by have h := hn48; rw [k37] at h; exact h))⟩)
    show tt Zi d 66 (95, [some (.inr (.inl 21)), some (.inl x), some (.inl ((s 2106) - x)), some (.inl x4), some (.inl r32)], [.inl r39, .inl x4], n, D, s38, p, c) _
    replace k43 : rdBs A (r35 : Int).toNat 0 ((s6 2001), (s6 2002), (s6 2003)) = some (r39, (s38 2001), (s38 2002), (s38 2003)) := k43
    replace k44 : r39 < 2 ^ (r35 : Int).toNat := k44
    replace k45 : (0 ≤ (s38 2003) ∧ (s38 2003) ≤ 8) ∧ (0 ≤ (s38 2002) ∧ (s38 2002) ≤ 255) := k45
    replace k46 : (s38 2001) ≤ (s6 601) := k46
    have b49 : 0 ≤ (s38 2001) ∧ (s38 2001) ≤ 100000 := hS38 2001
    have b50 : 0 ≤ (s38 2002) ∧ (s38 2002) ≤ 255 := hS38 2002
    have b51 : 0 ≤ (s38 2003) ∧ (s38 2003) ≤ 8 := hS38 2003
    have e52 : s38 601 = (s6 601) := (f41 601 (by decide))
    have b53 : 0 ≤ (s38 601) ∧ (s38 601) ≤ 32768 := hS38 601
    have e54 : s38 2106 = (s6 2106) := (f41 2106 (by decide))
    have b55 : 0 ≤ (s38 2106) ∧ (s38 2106) ≤ 64 := hS38 2106
    have e56 : s38 902 = (s6 902) := (f41 902 (by decide))
    have b57 : 0 ≤ (s38 902) ∧ (s38 902) ≤ 31 := hS38 902
    have e58 : s38 2108 = (s6 2108) := (f41 2108 (by decide))
    have b59 : 0 ≤ (s38 2108) ∧ (s38 2108) ≤ 65535 := hS38 2108
    have hx60 : tpl A (s38 601) (c (p 600)) := by rw [f41 601 (by decide)]; exact hx25
    refine tt_k 4 (S' := (99, [some (.inr (.inl 21)), some (.inl x), some (.inl ((s 2106) - x)), some (.inl (x4 + r39)), some (.inl r32)], [.inl ((s 2106) - x), .inl (x4 + r39)], n, D, s38, p, c)) rfl ?_
    refine tb_lt (x := (x4 + r39)) (y := ((s 2106) - x)) rfl rfl (by omega) (fun h61 => ?_) (fun h61 => ?_)
    · show tt Zi d 66 (113, [some (.inr (.inl 21)), some (.inl x), some (.inl ((s 2106) - x)), some (.inl (x4 + r39)), some (.inl r32)], [], n, D, s38, p, c) _
      refine tt_k 3 (S' := (116, [some (.inr (.inl 21)), some (.inl x), some (.inl ((s 2106) - x)), some (.inl (x4 + r39)), some (.inl r32)], [.inl (x4 + r39), .inl x, .inr (.inl 21)], n, D, s38, p, c)) rfl ?_
      refine tt_cl (by omega) rfl (u_setRun (Zi := Zi) (q := q) (n := n) (D := D) (s := s38) (p := p) (c := c) (by omega) hz (by omega) hD hS38 hC hW40 x (x4 + r39) (by omega) (by omega) (show x + (x4 + r39) ≤ 65 by omega)) ?_
      rintro _ _ ⟨c62, rfl, rfl, hC62, kf63, k64⟩
      have FK65 : fk p c n p c62 [2104] := fk_tr (fk_rf hD) kf63 (by decide)
      show tt Zi d 66 (119, [some (.inr (.inl 21)), some (.inl x), some (.inl ((s 2106) - x)), some (.inl (x4 + r39)), some (.inl r32)], [], n, D, s38, p, c62) _
      have hx66 : tpl A (s38 601) (c62 (p 600)) := by rw [fk_k (k := 600) kf63 (by decide)]; exact hx60
      refine tt_k 1 (S' := (120, [some (.inr (.inl 21)), some (.inl x), some (.inl ((s 2106) - x)), some (.inl (x4 + r39)), some (.inl r32)], [.inl (x4 + r39)], n, D, s38, p, c62)) rfl ?_
      exact tt_rti rfl rfl (Or.inl ⟨s38, c62, (x4 + r39), rfl, rfl, hS38, hC62, hW40, (fr_tr (fr_tr fr_rf f8 (by decide)) f41 (by decide)), FK65, by omega, by show x + (x4 + r39) ≤ s 2106; omega, by show (rRun A (s 2106 - x) 70 0 (s 902) (s 2001, s 2002, s 2003)) = some ((x4 + r39), (s38 902), (s38 2001), (s38 2002), (s38 2003)); have h := run_c i11 (by omega) (by have h := k43; rw [k37] at h; exact h) (by omega); rw [← show s38 902 = s6 902 by omega] at h; exact h, by show rwm (fil (c (p 2104)) (x + 1).toNat (x4 + r39) (s 2108)) (c62 (p 2104)); have h := k64; rw [show s38 2108 = s 2108 by omega] at h; exact h, by show (0 ≤ (s38 2003) ∧ (s38 2003) ≤ 8) ∧ (0 ≤ (s38 2002) ∧ (s38 2002) ≤ 255); omega, by show (s38 2001) ≤ s 601; omega, by show 0 ≤ (s38 902) ∧ (s38 902) ≤ 22; omega⟩)
    · show tt Zi d 66 (102, [some (.inr (.inl 21)), some (.inl x), some (.inl ((s 2106) - x)), some (.inl (x4 + r39)), some (.inl r32)], [], n, D, s38, p, c) _
      refine tt_k 4 (S' := (110, [some (.inr (.inl 21)), some (.inl x), some (.inl ((s 2106) - x)), some (.inl (x4 + r39)), some (.inl r32)], [.inl r32, .inl 7, .inr (.inl 20)], n, D, s38, p, c)) rfl ?_
      refine tt_cl (by omega) rfl (e_refuse (Zi := Zi) (q := q) (n := n) (D := D) (s := s38) (p := p) (c := c) (by omega) hz (by omega) hD hS38 hC hW40 7 r32 (by omega) (by omega)) ?_
      rintro _ H1 (hF | ⟨rfl, hY67⟩)
      · exact hF.elim
      · exact tt_ax rfl (Or.inr ⟨rfl, cXp_mono (cXp_tr (fk_rf hD) (show fr s s38 [800, 801, 802, 803, 804, 805, 806, 807, 808, 809, 902, 1705, 1706, 2001, 2002, 2003, 2004, 2005, 2006, 2106, 2107, 2108, 2109, 2110, 2111, 2112, 2113, 2114, 2115, 2116] from (fr_tr (fr_tr fr_rf f8 (by decide)) f41 (by decide))) ((frp_rf : frp p p []) 8 (by decide)) hY67 (by decide) (by decide)) (by omega), (run_f i11 (by omega) (by have h := k43; rw [k37] at h; exact h) (by omega))⟩)
