/-! the class's plane, exactly -/
theorem hE_0 {w : Int} {f : Nat → Int} (hw : 0 ≤ w ∧ w ≤ 64) (h : ∀ i : Nat, (i : Int) < 66 → f i = 0) : hE (fun _ => 0) w 0 f := by
  refine ⟨?_, fun i i0 i1 => ?_⟩
  · rw [if_neg (by omega)]
    exact h 0 (by omega)
  · unfold nB
    rw [if_neg (by omega)]
    exact h _ (by omega)
set_option maxRecDepth 100000 in
set_option maxHeartbeats 4000000 in
theorem e_tellPlane {g : Nat → Int} {Zi : Nat → Option (Nat × (Nat → Int))} {d n q : Nat} {D : Nat → Nat × Nat} {s : Nat → Int} {p : Nat → Nat} {c : Nat → Nat → Int} (hd : 5 ≤ d) (hz : zk Zi) (hq : q + 10 ≤ 400000) (hD : wd n p) (hS : bS s) (hC : bC D c) (hW : wp q g n D p s) (Z : Nat → Int) (W : WT) (S : Int → Int → Int) (a_ : Int) (b_a_ : 0 ≤ a_ ∧ a_ ≤ 2) (hp0 : wo s) (hp1 : zq Z (s 800) (s 801) (s 802) (s 803) (s 804) (s 805) (s 806) (s 807) (s 808) (s 809)) (hp2 : mv Z) (hp3 : wrl W (s 401) (s 1601) (s 1602) (c (p 400))) (hp4 : 7 * s 401 - s 1602 + 500000 ≤ 1834990) (hp5 : a_ < s 102 ∧ 1 ≤ s 100) (hp6 : ∀ yy : Int, 0 ≤ yy → yy < s 101 → ∀ xx : Int, 0 ≤ xx → xx < s 100 → c (p 104) ((a_ * s 101 + yy) * s 100 + xx).toNat = S yy xx) (hp7 : ∀ yy : Int, 0 ≤ yy → yy < s 101 → ∀ xx : Int, 0 ≤ xx → xx < s 100 → 0 ≤ S yy xx ∧ S yy xx ≤ Z 3017) : tt Zi d 32 (0, [some (.inr (.inl 12)), some (.inr (.inl 1)), some (.inl a_), none, none], [], n, D, s, p, c) (fun R H => ∃ (n' : Nat) (D' : Nat → Nat × Nat) (s' : Nat → Int) (p' : Nat → Nat) (c' : Nat → Nat → Int), R = .inl none ∧ H = (n', D', s', p', c') ∧ bS s' ∧ bC D' c' ∧ wp q g n' D' p' s' ∧ fr s s' [401, 902, 1206, 1207, 1208, 1209, 1210, 1211, 1212, 1213, 1214, 1215, 1216, 1601, 1602] ∧ frp p p' [400, 900, 901, 1203, 1204, 1205] ∧ ext n D n' D' ∧ fk p c n' p' c' [400, 900, 901, 1203, 1204] ∧ (wo s') ∧ (7 * s' 401 - s' 1602 ≤ 7 * s 401 - s 1602 + 457600) ∧ (wrl (plX Z (s 100) (s 101) S 5000 0 0 (W, mB (Z 3024), 0, fun _ => 0)).1 (s' 401) (s' 1601) (s' 1602) (c' (p' 400))) ∧ (mrk (plX Z (s 100) (s 101) S 5000 0 0 (W, mB (Z 3024), 0, fun _ => 0)).2.1 (c' (p' 900)))) := by
  have b1 : 1 ≤ (s 100) ∧ (s 100) ≤ 64 := hS 100
  have b2 : 1 ≤ (s 101) ∧ (s 101) ≤ 64 := hS 101
  have b3 : 1 ≤ (s 102) ∧ (s 102) ≤ 3 := hS 102
  have mvx := mv_fx (s := Z) hp2
  have hzz := hp1
  obtain ⟨z0, z1, z2, z3, z4, z5, z6, z7, z8, z9⟩ := hzz
  have hwk : wok W := by unfold wok; rw [hp3.2.1, hp3.2.2.1]; exact hp0
  have hpb := pl_begin (s := Z) (c := mB (Z 3024)) hp2 (fun i _ => rfl) (fun i _ => rfl) (fun i _ => rfl) (fun i _ => rfl)
  have hv0 : vX Z (s 100) 0 0 (W, mB (Z 3024), 0, fun _ => 0) := ⟨pl_mono hpb.1 (by omega), tb_0, ⟨Int.le_refl 0, (by show (0 : Int) ≤ 22; decide)⟩, hwk, ⟨Int.le_refl 0, Int.le_refl 0⟩⟩
  refine tt_k 13 (S' := (27, [some (.inr (.inl 12)), some (.inr (.inl 1)), some (.inl a_), none, none], [.inl (s 807), .inr (.inl 9)], n, D, (us s 1206 (s 100)), (up p 1205 (p 104)), c)) rfl ?_
  have b4 : 0 ≤ (s 807) ∧ (s 807) ≤ 65536 := hS 807
  have FK5 : fk p c n (up p 1205 (p 104)) c [400, 900, 901, 1203, 1204] := (fk_up (by decide) (fk_rf hD))
  refine tt_cl (by omega) rfl (e_begin (Zi := Zi) (q := q) (n := n) (D := D) (s := (us s 1206 (s 100))) (p := (up p 1205 (p 104))) (c := c) (by omega) hz (by omega) FK5.1 (bS_us hS (show 0 ≤ (s 100) ∧ (s 100) ≤ 64 by omega)) hC (wp_us (by decide) (wp_sa12_1 hW)) (s 807) (by omega)) ?_
  rintro _ _ ⟨s6, c7, rfl, rfl, hS6, hC7, hW8, f9, kf10, k11, k12⟩
  have hc13 : wo s6 := wo_fr f9 (by decide) (wo_us (by decide) hp0)
  have FK14 : fk p c n (up p 1205 (p 104)) c7 [400, 900, 901, 1203, 1204] := fk_tr FK5 kf10 (by decide)
  show tt Zi d 32 (30, [some (.inr (.inl 12)), some (.inr (.inl 1)), some (.inl a_), none, none], [], n, D, s6, (up p 1205 (p 104)), c7) _
  replace k12 : (s6 902) = 0 := k12
  have b15 : 0 ≤ (s6 902) ∧ (s6 902) ≤ 31 := hS6 902
  have e16 : s6 100 = (s 100) := (f9 100 (by decide))
  have b17 : 1 ≤ (s6 100) ∧ (s6 100) ≤ 64 := hS6 100
  have e18 : s6 101 = (s 101) := (f9 101 (by decide))
  have b19 : 1 ≤ (s6 101) ∧ (s6 101) ≤ 64 := hS6 101
  have e20 : s6 102 = (s 102) := (f9 102 (by decide))
  have b21 : 1 ≤ (s6 102) ∧ (s6 102) ≤ 3 := hS6 102
  have e22 : s6 1206 = (s 100) := (f9 1206 (by decide))
  have b23 : 0 ≤ (s6 1206) ∧ (s6 1206) ≤ 64 := hS6 1206
  have e24 : s6 1207 = (s 1207) := (f9 1207 (by decide))
  have b25 : 0 ≤ (s6 1207) ∧ (s6 1207) ≤ 12288 := hS6 1207
  have b26 : 0 ≤ (s 1207) ∧ (s 1207) ≤ 12288 := hS 1207
  have e27 : s6 801 = (s 801) := (f9 801 (by decide))
  have b28 : -2147483648 ≤ (s6 801) ∧ (s6 801) ≤ 2147483647 := hS6 801
  have b29 : -2147483648 ≤ (s 801) ∧ (s 801) ≤ 2147483647 := hS 801
  have e30 : s6 401 = (s 401) := (f9 401 (by decide))
  have b31 : 0 ≤ (s6 401) ∧ (s6 401) ≤ 262144 := hS6 401
  have b32 : 0 ≤ (s 401) ∧ (s 401) ≤ 262144 := hS 401
  have e33 : s6 1602 = (s 1602) := (f9 1602 (by decide))
  have b34 : 1 ≤ (s6 1602) ∧ (s6 1602) ≤ 8 := hS6 1602
  have b35 : 1 ≤ (s 1602) ∧ (s 1602) ≤ 8 := hS 1602
  have hx36 : zq Z (s6 800) (s6 801) (s6 802) (s6 803) (s6 804) (s6 805) (s6 806) (s6 807) (s6 808) (s6 809) := by rw [f9 800 (by decide), f9 801 (by decide), f9 802 (by decide), f9 803 (by decide), f9 804 (by decide), f9 805 (by decide), f9 806 (by decide), f9 807 (by decide), f9 808 (by decide), f9 809 (by decide)]; exact hp1
  have hx37 : wrl W (s6 401) (s6 1601) (s6 1602) (c7 (p 400)) := by rw [f9 401 (by decide), f9 1601 (by decide), f9 1602 (by decide), (by have hk := fk_k (k := 400) kf10 (by decide); exact hk : c7 (p 400) = c (p 400))]; exact hp3
  have hb0 : mrc (mB (Z 3024)) (c7 (p 901)) := by have h := k11; rw [z7] at h; exact h
  have hp9z : s6 902 = 0 := k12
  refine tt_k 3 (S' := (35, [some (.inr (.inl 12)), some (.inr (.inl 1)), some (.inl a_), none, none], [.inl 0, .inr (.inl (p 1204))], n, D, s6, (up p 1205 (p 104)), c7)) rfl ?_
  refine tt_cl (by omega) rfl (g_fill (A := (p 1204)) (m := 66) (s := s6) (p := (up p 1205 (p 104))) ((sw_arr (hW8).a12 rfl rfl).2) (by omega) (by rw [(show bC_lo D (p 1204) = 0 ∧ bC_hi D (p 1204) = 65535 from ((sw_12 (hW8).a12).2)).1, (show bC_lo D (p 1204) = 0 ∧ bC_hi D (p 1204) = 65535 from ((sw_12 (hW8).a12).2)).2]; decide) hC7) ?_
  rintro _ _ ⟨c38, rfl, rfl, hC38, fc38, ec38, zc38⟩
  show tt Zi d 32 (38, [some (.inr (.inl 12)), some (.inr (.inl 1)), some (.inl a_), none, none], [], n, D, s6, (up p 1205 (p 104)), c38) _
  have FK39 : fk p c n (up p 1205 (p 104)) c38 [400, 900, 901, 1203, 1204] := fk_st (k := 1204) FK14 ec38 (by decide) rfl
  have hx40 : wrl W (s6 401) (s6 1601) (s6 1602) (c38 (p 400)) := by rw [ec38, uc_ne (show (p 400) ≠ (p 1204) from FK39.1.2 400 (by decide) 1204 (by decide) (by decide))]; exact hx37
  have hx41 : mrc (mB (Z 3024)) (c38 (p 901)) := by rw [ec38, uc_ne (show (p 901) ≠ (p 1204) from FK39.1.2 901 (by decide) 1204 (by decide) (by decide))]; exact hb0
  refine tt_k 2 (S' := (40, [some (.inr (.inl 12)), some (.inr (.inl 1)), some (.inl a_), some (.inl 0), none], [], n, D, s6, (up p 1205 (p 104)), c38)) rfl ?_
  have e6 : s6 1206 = s 100 := by omega
  have e1 : s6 101 = s 101 := by omega
  have e0 : s6 100 = s 100 := by omega
  have hhE : hE (fun _ => 0) (s 100) 0 (c38 (p 1204)) := hE_0 (by omega) (fun i hi => by rw [ec38, uc_eq]; exact zc38 i (by omega))
  have b42 : 0 ≤ (s6 800) ∧ (s6 800) ≤ 65535 := hS6 800
  have b43 : -2147483648 ≤ (s6 802) ∧ (s6 802) ≤ 2147483647 := hS6 802
  have b44 : -2147483648 ≤ (s6 803) ∧ (s6 803) ≤ 2147483647 := hS6 803
  have b45 : -2147483648 ≤ (s6 804) ∧ (s6 804) ≤ 2147483647 := hS6 804
  have b46 : 0 ≤ (s6 805) ∧ (s6 805) ≤ 65535 := hS6 805
  have b47 : 1 ≤ (s6 806) ∧ (s6 806) ≤ 511 := hS6 806
  have b48 : 0 ≤ (s6 807) ∧ (s6 807) ≤ 65536 := hS6 807
  have b49 : 0 ≤ (s6 808) ∧ (s6 808) ≤ 30 := hS6 808
  have b50 : 0 ≤ (s6 809) ∧ (s6 809) ≤ 64 := hS6 809
  refine e_tellPlane_L40 (Zi := Zi) (q := q) (n := n) (D := D) (s := s6) (p := (up p 1205 (p 104))) (c := c38) hd hz (by omega) FK39.1 hS6 hC38 hW8 Z S (plX Z (s 100) (s 101) S 5000 0 0 (W, mB (Z 3024), 0, fun _ => 0)) (bX Z (W, mB (Z 3024), 0, fun _ => 0)) (7 * s 401 - s 1602) a_ (by omega) (show _ from (hW8).w1) (show (s6 1206) = (s6 100) by omega) (show a_ < (s6 102) ∧ 1 ≤ (s6 100) by omega) hx36 hp2 (by rw [e0, e1, fk_k (k := 104) FK39 (by decide)]; exact hp6) rfl (by rw [e6, e1]; exact hp7) (show (7 * s 401 - s 1602) + 457600 ≤ 1834000 by omega)  ?_ _ 0 (none) n D s6 (up p 1205 (p 104)) c38 (by omega) hS6 fr_rf hC38 hW8 frp_rf ext_rf (fk_rf FK39.1) hc13 (show 0 ≤ (s6 101) by omega) (show 7 * (s6 401) - (s6 1602) ≤ (7 * s 401 - s 1602) + 7150 * 0 by omega) (by rw [e6, e1]; exact ⟨(W, mB (Z 3024), 0, fun _ => 0), ⟨hv0, by omega, 5000, by omega, rfl⟩, hx40, hx41, hp9z, hhE⟩) (Nat.lt_succ_self _)
  intro x51 x52 n53 D54 s55 p56 c57 b58 hS55 f59 hC57 hW60 g61 xe62 kf63 hc64 i65 i66 i67 hx68
  show tt Zi d 32 (149, [some (.inr (.inl 12)), some (.inr (.inl 1)), some (.inl a_), some (.inl x51), x52], [], n53, D54, s55, p56, c57) _
  have FK69 : fk p c n53 p56 c57 [400, 900, 901, 1203, 1204] := fk_tr FK39 kf63 (by decide)
  replace i65 : x51 ≤ (s6 101) := i65
  replace i66 : 7 * (s55 401) - (s55 1602) ≤ (7 * s 401 - s 1602) + 7150 * x51 := i66
  have b70 : 0 ≤ (s55 401) ∧ (s55 401) ≤ 262144 := hS55 401
  have b71 : 1 ≤ (s55 1602) ∧ (s55 1602) ≤ 8 := hS55 1602
  replace hx68 : (s6 101) ≤ x51 := hx68
  have e72 : s55 100 = (s6 100) := (f59 100 (by decide))
  have b73 : 1 ≤ (s55 100) ∧ (s55 100) ≤ 64 := hS55 100
  have e74 : s55 101 = (s6 101) := (f59 101 (by decide))
  have b75 : 1 ≤ (s55 101) ∧ (s55 101) ≤ 64 := hS55 101
  have e76 : s55 102 = (s6 102) := (f59 102 (by decide))
  have b77 : 1 ≤ (s55 102) ∧ (s55 102) ≤ 3 := hS55 102
  have e78 : s55 1206 = (s6 1206) := (f59 1206 (by decide))
  have b79 : 0 ≤ (s55 1206) ∧ (s55 1206) ≤ 64 := hS55 1206
  have e80 : s55 801 = (s6 801) := (f59 801 (by decide))
  have b81 : -2147483648 ≤ (s55 801) ∧ (s55 801) ≤ 2147483647 := hS55 801
  have e82 : ln D54 (p56 1205) = ln D (p 104) := (congrArg (ln D54) (g61 1205 (by decide))).trans (ext_ln xe62 (arr_lt (hW8).s12.1))
  have hx83 : zq Z (s55 800) (s55 801) (s55 802) (s55 803) (s55 804) (s55 805) (s55 806) (s55 807) (s55 808) (s55 809) := by rw [f59 800 (by decide), f59 801 (by decide), f59 802 (by decide), f59 803 (by decide), f59 804 (by decide), f59 805 (by decide), f59 806 (by decide), f59 807 (by decide), f59 808 (by decide), f59 809 (by decide)]; exact hx36
  have hr0 := i67
  rw [e6, e1] at hr0
  obtain ⟨X, hI, hwr, hmr, hpc, hhe⟩ := hr0
  have hXR := plI_e hI (by omega)
  refine tt_k 2 (S' := (153, [some (.inr (.inl 12)), some (.inr (.inl 1)), some (.inl a_), some (.inl x51), x52], [.inr (.inl 9)], n53, D54, s55, p56, c57)) rfl ?_
  refine tt_cl (by omega) rfl (e_keep (Zi := Zi) (q := q) (n := n53) (D := D54) (s := s55) (p := p56) (c := c57) (by omega) hz (by omega) FK69.1 hS55 hC57 hW60 X.2.1 hmr) ?_
  rintro _ _ ⟨p84, rfl, rfl, hW85, g86, kf87, k88⟩
  have FK89 : fk p c n53 p84 c57 [400, 900, 901, 1203, 1204] := fk_tr FK69 kf87 (by decide)
  show tt Zi d 32 (156, [some (.inr (.inl 12)), some (.inr (.inl 1)), some (.inl a_), some (.inl x51), x52], [], n53, D54, s55, p84, c57) _
  have e90 : ln D54 (p84 1205) = ln D54 (p56 1205) := (congrArg (ln D54) (g86 1205 (by decide)))
  have hx91 : wrl X.1 (s55 401) (s55 1601) (s55 1602) (c57 (p84 400)) := by rw [fk_k (k := 400) kf87 (by decide)]; exact hwr
  exact tt_rtv rfl rfl ⟨n53, D54, s55, p84, c57, rfl, rfl, hS55, hC57, hW85, (fr_tr (fr_tr (fr_us (by decide) fr_rf) f9 (by decide)) f59 (by decide)), (frp_tr (frp_tr (frp_up (by decide) frp_rf) g61 (by decide)) g86 (by decide)), (ext_tr ext_rf xe62), FK89, hc64, by show 7 * (s55 401) - (s55 1602) ≤ 7 * s 401 - s 1602 + 457600; omega, by show wrl (plX Z (s 100) (s 101) S 5000 0 0 (W, mB (Z 3024), 0, fun _ => 0)).1 ((s55 401)) ((s55 1601)) ((s55 1602)) (c57 (p84 400)); have h := hx91; rw [hXR] at h; exact h, by show mrk (plX Z (s 100) (s 101) S 5000 0 0 (W, mB (Z 3024), 0, fun _ => 0)).2.1 (c57 (p84 900)); have h := k88; rw [hXR] at h; exact h⟩
