/-! the reference tells a stop, exactly -/
set_option maxRecDepth 100000 in
set_option maxHeartbeats 4000000 in
theorem x_stop {Zi : Nat → Option (Nat × (Nat → Int))} {d n : Nat} {D : Nat → Nat × Nat} {s : Nat → Int} {p : Nat → Nat} {c : Nat → Nat → Int} (hd : 4 ≤ d) (hS : bS s) (hC : bC D c) (t : Int) (Z : Nat → Int) (W : WT) (M : MT) (T : Nat → Int) (x : Int) (y : Int) (run : Int) (b_x : 0 ≤ x ∧ x ≤ 63) (b_y : 0 ≤ y ∧ y ≤ 63) (b_run : 0 ≤ run ∧ run ≤ 65535) (hp0 : mv s) (hp1 : s 3036 = 1 ∧ s 3050 = 0 ∧ x < s 3037) (hp2 : run ≤ s 3017) (hp3 : pl s t c) (hp4 : 0 ≤ t ∧ t ≤ 4095) (hp5 : w_ok (s 3047) (s 3048)) (hp6 : s 3016 + 100 ≤ 65535) (hp7 : c 31 (s 3039 + 64 * y + x).toNat ≤ s 3017) (hp8 : 0 ≤ s 3035 ∧ s 3035 ≤ 22) (hp9 : zq Z (s 3017) (s 3018) (s 3019) (s 3020) (s 3021) (s 3022) (s 3023) (s 3024) (s 3025) (s 3026)) (hp10 : wrl W (s 3016) (s 3047) (s 3048) (c 35)) (hp11 : mrl M (c 36) (c 37) (c 38) (c 39)) (hp12 : 0 ≤ nS Z run (nB T x y) (c 31 (s 3039 + 64 * y + x).toNat) M) (hp13 : tb (s 3037) (s 3039) (s 3017) (c 44) x y) (hp14 : trl T (s 3039) (s 3037) x y (c 44)) (hp15 : 0 ≤ c 37 365 ∧ 0 ≤ c 37 366) : tt Zi d 161 (0, [some (.inr (.inl 30)), some (.inl x), some (.inl y), some (.inl run), none, none, none, none, none, none, none, none, none], [], n, D, s, p, c) (fun R H => ∃ (s' : Nat → Int) (c' : Nat → Nat → Int), R = .inl none ∧ H = (n, D, s', p, c') ∧ bS s' ∧ bC D c' ∧ fr s s' [3016, 3035, 3041, 3042, 3043, 3044, 3045, 3046, 3047, 3048] ∧ frc c c' [35, 36, 37, 39, 44] ∧ (w_ok (s' 3047) (s' 3048)) ∧ (s 3016 ≤ s' 3016 ∧ s' 3016 ≤ s 3016 + 96) ∧ (wrl (wNum W (nS Z run (nB T x y) (c 31 (s 3039 + 64 * y + x).toNat) M) (kS M (sS Z run (nB T x y))) (Z 3026 - 1 - jj (s 3035) - Z 3025 - 1) (Z 3025)) (s' 3016) (s' 3047) (s' 3048) (c' 35)) ∧ (mrl (mStp Z M (365 + sS Z run (nB T x y)).toNat (eS Z run (nB T x y) (c 31 (s 3039 + 64 * y + x).toNat)) ((nS Z run (nB T x y) (c 31 (s 3039 + 64 * y + x).toNat) M + 1 - sS Z run (nB T x y)) / 2)) (c' 36) (c' 37) (c' 38) (c' 39)) ∧ (c' 44 = ua (c 44) (s 3039 + 64 * y + x).toNat (rR Z (gS Z run (nB T x y)) (tS Z run (nB T x y)) (eS Z run (nB T x y) (c 31 (s 3039 + 64 * y + x).toNat)))) ∧ (s' 3035 = (if 0 < s 3035 then s 3035 - 1 else 0))) := by
  have mvx := mv_fx hp0
  refine tt_k 3 (S' := (3, [some (.inr (.inl 30)), some (.inl x), some (.inl y), some (.inl run), none, none, none, none, none, none, none, none, none], [.inl y, .inl x, .inr (.inl 30)], n, D, s, p, c)) rfl ?_
  have b1 : 0 ≤ (s 3037) ∧ (s 3037) ≤ 64 := hS 3037
  have b2 : 0 ≤ (s 3039) ∧ (s 3039) ≤ 8192 := hS 3039
  have b3 : 0 ≤ (s 3017) ∧ (s 3017) ≤ 65535 := hS 3017
  refine tt_cl (by omega) rfl (y_neighbours (Zi := Zi) (D := D) (s := s) (p := p) (c := c) (by omega) hS hC T x y (by omega) (by omega) (show x < (s 3037) by omega) hp13 hp14) ?_
  rintro _ _ ⟨s4, rfl, rfl, hS4, f5, k6, k7, k8, k9, k10⟩
  have hc11 : mv s4 := mv_fr f5 (by decide) hp0
  show tt Zi d 161 (6, [some (.inr (.inl 30)), some (.inl x), some (.inl y), some (.inl run), none, none, none, none, none, none, none, none, none], [], n, D, s4, p, c) _
  replace k6 : (0 ≤ (s4 3041) ∧ (s4 3041) ≤ (s 3017)) ∧ (0 ≤ (s4 3042) ∧ (s4 3042) ≤ (s 3017)) ∧ (0 ≤ (s4 3043) ∧ (s4 3043) ≤ (s 3017)) ∧ (0 ≤ (s4 3044) ∧ (s4 3044) ≤ (s 3017)) := k6
  replace k7 : (s4 3041) = nA T x y := k7
  replace k8 : (s4 3042) = nB T x y := k8
  replace k9 : (s4 3043) = nC T x y := k9
  replace k10 : (s4 3044) = nD T ((s 3037)) x y := k10
  have b12 : 0 ≤ (s4 3041) ∧ (s4 3041) ≤ 65535 := hS4 3041
  have b13 : 0 ≤ (s4 3042) ∧ (s4 3042) ≤ 65535 := hS4 3042
  have b14 : 0 ≤ (s4 3043) ∧ (s4 3043) ≤ 65535 := hS4 3043
  have b15 : 0 ≤ (s4 3044) ∧ (s4 3044) ≤ 65535 := hS4 3044
  have e16 : s4 3036 = (s 3036) := (f5 3036 (by decide))
  have b17 : 0 ≤ (s4 3036) ∧ (s4 3036) ≤ 1 := hS4 3036
  have b18 : 0 ≤ (s 3036) ∧ (s 3036) ≤ 1 := hS 3036
  have e19 : s4 3050 = (s 3050) := (f5 3050 (by decide))
  have b20 : 0 ≤ (s4 3050) ∧ (s4 3050) ≤ 8 := hS4 3050
  have b21 : 0 ≤ (s 3050) ∧ (s 3050) ≤ 8 := hS 3050
  have e22 : s4 3037 = (s 3037) := (f5 3037 (by decide))
  have b23 : 0 ≤ (s4 3037) ∧ (s4 3037) ≤ 64 := hS4 3037
  have e24 : s4 3017 = (s 3017) := (f5 3017 (by decide))
  have b25 : 0 ≤ (s4 3017) ∧ (s4 3017) ≤ 65535 := hS4 3017
  have e26 : s4 3016 = (s 3016) := (f5 3016 (by decide))
  have b27 : 0 ≤ (s4 3016) ∧ (s4 3016) ≤ 65536 := hS4 3016
  have b28 : 0 ≤ (s 3016) ∧ (s 3016) ≤ 65536 := hS 3016
  have e29 : s4 3035 = (s 3035) := (f5 3035 (by decide))
  have b30 : 0 ≤ (s4 3035) ∧ (s4 3035) ≤ 31 := hS4 3035
  have b31 : 0 ≤ (s 3035) ∧ (s 3035) ≤ 31 := hS 3035
  have hx32 : zq Z (s4 3017) (s4 3018) (s4 3019) (s4 3020) (s4 3021) (s4 3022) (s4 3023) (s4 3024) (s4 3025) (s4 3026) := by rw [f5 3017 (by decide), f5 3018 (by decide), f5 3019 (by decide), f5 3020 (by decide), f5 3021 (by decide), f5 3022 (by decide), f5 3023 (by decide), f5 3024 (by decide), f5 3025 (by decide), f5 3026 (by decide)]; exact hp9
  have hx33 : wrl W (s4 3016) (s4 3047) (s4 3048) (c 35) := by rw [f5 3016 (by decide), f5 3047 (by decide), f5 3048 (by decide)]; exact hp10
  have aS : s4 3016 = s 3016 := f5 3016 (by decide)
  have aH : s4 3047 = s 3047 := f5 3047 (by decide)
  have aR : s4 3048 = s 3048 := f5 3048 (by decide)
  have aP : s4 3035 = s 3035 := f5 3035 (by decide)
  have aQ : s4 3025 = s 3025 := f5 3025 (by decide)
  have aB : s4 3039 = s 3039 := f5 3039 (by decide)
  have aM : s4 3017 = s 3017 := f5 3017 (by decide)
  have b34 : 0 ≤ (s4 3047) ∧ (s4 3047) ≤ 255 := hS4 3047
  have b35 : 0 ≤ (s4 3048) ∧ (s4 3048) ≤ 8 := hS4 3048
  have b36 : 0 ≤ (s4 3039) ∧ (s4 3039) ≤ 8192 := hS4 3039
  have b37 : -2147483648 ≤ (s4 3018) ∧ (s4 3018) ≤ 2147483647 := hS4 3018
  have b38 : -2147483648 ≤ (s4 3019) ∧ (s4 3019) ≤ 2147483647 := hS4 3019
  have b39 : -2147483648 ≤ (s4 3020) ∧ (s4 3020) ≤ 2147483647 := hS4 3020
  have b40 : -2147483648 ≤ (s4 3021) ∧ (s4 3021) ≤ 2147483647 := hS4 3021
  have b41 : 0 ≤ (s4 3022) ∧ (s4 3022) ≤ 65535 := hS4 3022
  have b42 : -2147483648 ≤ (s4 3023) ∧ (s4 3023) ≤ 2147483647 := hS4 3023
  have b43 : -2147483648 ≤ (s4 3024) ∧ (s4 3024) ≤ 2147483647 := hS4 3024
  have b44 : 0 ≤ (s4 3025) ∧ (s4 3025) ≤ 31 := hS4 3025
  have b45 : 0 ≤ (s4 3026) ∧ (s4 3026) ≤ 96 := hS4 3026
  refine tt_mono (x_stopC (Zi := Zi) (D := D) (s := s4) (p := p) (c := c) (by omega) hS4 hC t Z W M (nB T x y) x y run (by omega) (by omega) (by omega) hc11 (show (s4 3036) = 1 ∧ (s4 3050) = 0 ∧ x < (s4 3037) by omega) (show run ≤ (s4 3017) by omega) (pl_eq aQ rfl rfl rfl rfl hp3) hp4 (by rw [aH, aR]; exact hp5) (show (s4 3016) + 100 ≤ 65535 by omega) (by rw [aB, aM]; exact hp7) (show 0 ≤ (s4 3035) ∧ (s4 3035) ≤ 22 by omega) hx32 hx33 hp11 (by rw [aB]; exact hp12) ⟨k8, by rw [← k8]; omega, by rw [← k8]; omega⟩ (show 0 ≤ (c 37) 365 ∧ 0 ≤ (c 37) 366 by omega)) ?_
  rintro _ _ ⟨s46, c47, rfl, rfl, hS46, hC47, f48, g49, k50, k51, k52, k53, k54, k55⟩
  exact ⟨s46, c47, rfl, rfl, hS46, hC47, (fr_tr (fr_tr fr_rf f5 (by decide)) f48 (by decide)), (frc_tr frc_rf g49 (by decide)), k50, by show s 3016 ≤ (s46 3016) ∧ (s46 3016) ≤ s 3016 + 96; omega, by show wrl (wNum W (nS Z run (nB T x y) (c 31 (s 3039 + 64 * y + x).toNat) M) (kS M (sS Z run (nB T x y))) (Z 3026 - 1 - jj (s 3035) - Z 3025 - 1) (Z 3025)) ((s46 3016)) ((s46 3047)) ((s46 3048)) ((c47 35)); have h := k52; rw [aP, aB] at h; exact h, by show mrl (mStp Z M (365 + sS Z run (nB T x y)).toNat (eS Z run (nB T x y) (c 31 (s 3039 + 64 * y + x).toNat)) ((nS Z run (nB T x y) (c 31 (s 3039 + 64 * y + x).toNat) M + 1 - sS Z run (nB T x y)) / 2)) ((c47 36)) ((c47 37)) ((c47 38)) ((c47 39)); have h := k53; rw [aB] at h; exact h, by show (c47 44) = ua (c 44) (s 3039 + 64 * y + x).toNat (rR Z (gS Z run (nB T x y)) (tS Z run (nB T x y)) (eS Z run (nB T x y) (c 31 (s 3039 + 64 * y + x).toNat))); have h := k54; rw [aB] at h; exact h, by show (s46 3035) = (if 0 < s 3035 then s 3035 - 1 else 0); have h := k55; rw [aP] at h; exact h⟩
