/-! the reference's plane, exactly -/
set_option maxRecDepth 100000 in
set_option maxHeartbeats 4000000 in
theorem x_plane {Zi : Nat → Option (Nat × (Nat → Int))} {d n : Nat} {D : Nat → Nat × Nat} {s : Nat → Int} {p : Nat → Nat} {c : Nat → Nat → Int} (hd : 6 ≤ d) (hS : bS s) (hC : bC D c) (Z : Nat → Int) (W : WT) (S : Int → Int → Int) (hp0 : mv s) (hp1 : s 3036 = 1 ∧ s 3050 = 0 ∧ 1 ≤ s 3037) (hp2 : zq Z (s 3017) (s 3018) (s 3019) (s 3020) (s 3021) (s 3022) (s 3023) (s 3024) (s 3025) (s 3026)) (hp3 : mv Z) (hp4 : wrl W (s 3016) (s 3047) (s 3048) (c 35)) (hp5 : w_ok (s 3047) (s 3048)) (hp6 : ∀ yy : Int, 0 ≤ yy → yy < s 3038 → smc (S yy) (s 3039 + 64 * yy) (s 3037) (c 31)) (hp7 : ∀ yy : Int, 0 ≤ yy → yy < s 3038 → ∀ xx : Int, 0 ≤ xx → xx < s 3037 → 0 ≤ S yy xx ∧ S yy xx ≤ Z 3017) (hp8 : bX Z (W, mB (Z 3024), 0, fun _ => 0) + cb Z * 4096 + 104857600 ≤ 17179869184) : tt Zi d 150 (0, [some (.inr (.inl 30)), none, none, none, none, none, none], [], n, D, s, p, c) (fun R H => ∃ (s' : Nat → Int) (c' : Nat → Nat → Int), R = .inl none ∧ H = (n, D, s', p, c') ∧ bS s' ∧ bC D c' ∧ fr s s' [3016, 3035, 3041, 3042, 3043, 3044, 3045, 3046, 3047, 3048] ∧ frc c c' [35, 36, 37, 38, 39, 40, 41, 42, 43, 44] ∧ (w_ok (s' 3047) (s' 3048)) ∧ (wrl (plX Z (s 3037) (s 3038) S 5000 0 0 (W, mB (Z 3024), 0, fun _ => 0)).1 (s' 3016) (s' 3047) (s' 3048) (c' 35)) ∧ (mrl (plX Z (s 3037) (s 3038) S 5000 0 0 (W, mB (Z 3024), 0, fun _ => 0)).2.1 (c' 40) (c' 41) (c' 42) (c' 43)) ∧ (262144 * s' 3016 ≤ bX Z (W, mB (Z 3024), 0, fun _ => 0) + cb Z * 4096)) := by
  have mvx := mv_fx hp0
  refine tt_k 1 (S' := (1, [some (.inr (.inl 30)), none, none, none, none, none, none], [.inr (.inl 30)], n, D, s, p, c)) rfl ?_
  have b1 : -2147483648 ≤ (s 3024) ∧ (s 3024) ≤ 2147483647 := hS 3024
  refine tt_cl (by omega) rfl (k_beginPlane (Zi := Zi) (D := D) (s := s) (p := p) (c := c) (by omega) hS hC (show 1 ≤ (s 3024) ∧ (s 3024) ≤ 65536 by omega)) ?_
  rintro _ _ ⟨s2, c3, rfl, rfl, hS2, hC3, f4, g5, k6, k7, k8, k9, k10⟩
  have hc11 : mv s2 := mv_fr f4 (by decide) hp0
  show tt Zi d 150 (4, [some (.inr (.inl 30)), none, none, none, none, none, none], [], n, D, s2, p, c3) _
  replace k6 : ∀ i : Nat, (i : Int) < 367 → (c3 36) i = max 2 (((s 3024) + 32) / 64) := k6
  replace k7 : ∀ i : Nat, (i : Int) < 367 → (c3 37) i = 0 := k7
  replace k8 : ∀ i : Nat, (i : Int) < 367 → (c3 38) i = 0 := k8
  replace k9 : ∀ i : Nat, (i : Int) < 367 → (c3 39) i = 1 := k9
  replace k10 : (s2 3035) = 0 := k10
  have b12 : 0 ≤ (s2 3035) ∧ (s2 3035) ≤ 31 := hS2 3035
  have e13 : s2 3050 = (s 3050) := (f4 3050 (by decide))
  have b14 : 0 ≤ (s2 3050) ∧ (s2 3050) ≤ 8 := hS2 3050
  have b15 : 0 ≤ (s 3050) ∧ (s 3050) ≤ 8 := hS 3050
  have e16 : s2 3036 = (s 3036) := (f4 3036 (by decide))
  have b17 : 0 ≤ (s2 3036) ∧ (s2 3036) ≤ 1 := hS2 3036
  have b18 : 0 ≤ (s 3036) ∧ (s 3036) ≤ 1 := hS 3036
  have e19 : s2 3037 = (s 3037) := (f4 3037 (by decide))
  have b20 : 0 ≤ (s2 3037) ∧ (s2 3037) ≤ 64 := hS2 3037
  have b21 : 0 ≤ (s 3037) ∧ (s 3037) ≤ 64 := hS 3037
  have e22 : s2 3038 = (s 3038) := (f4 3038 (by decide))
  have b23 : 0 ≤ (s2 3038) ∧ (s2 3038) ≤ 64 := hS2 3038
  have b24 : 0 ≤ (s 3038) ∧ (s 3038) ≤ 64 := hS 3038
  have e25 : s2 3017 = (s 3017) := (f4 3017 (by decide))
  have b26 : 0 ≤ (s2 3017) ∧ (s2 3017) ≤ 65535 := hS2 3017
  have b27 : 0 ≤ (s 3017) ∧ (s 3017) ≤ 65535 := hS 3017
  have e28 : s2 3039 = (s 3039) := (f4 3039 (by decide))
  have b29 : 0 ≤ (s2 3039) ∧ (s2 3039) ≤ 8192 := hS2 3039
  have b30 : 0 ≤ (s 3039) ∧ (s 3039) ≤ 8192 := hS 3039
  have e31 : s2 3016 = (s 3016) := (f4 3016 (by decide))
  have b32 : 0 ≤ (s2 3016) ∧ (s2 3016) ≤ 65536 := hS2 3016
  have b33 : 0 ≤ (s 3016) ∧ (s 3016) ≤ 65536 := hS 3016
  have hx34 : zq Z (s2 3017) (s2 3018) (s2 3019) (s2 3020) (s2 3021) (s2 3022) (s2 3023) (s2 3024) (s2 3025) (s2 3026) := by rw [f4 3017 (by decide), f4 3018 (by decide), f4 3019 (by decide), f4 3020 (by decide), f4 3021 (by decide), f4 3022 (by decide), f4 3023 (by decide), f4 3024 (by decide), f4 3025 (by decide), f4 3026 (by decide)]; exact hp2
  have hx35 : wrl W (s2 3016) (s2 3047) (s2 3048) (c3 35) := by rw [f4 3016 (by decide), f4 3047 (by decide), f4 3048 (by decide), g5 35 (by decide)]; exact hp4
  have z7 : s 3024 = Z 3024 := hp2.2.2.2.2.2.2.2.1
  have hmB : mrl (mB (Z 3024)) (c3 36) (c3 37) (c3 38) (c3 39) := fun i hi => ⟨by rw [k6 i (by omega), z7]; rfl, k7 i (by omega), k8 i (by omega), k9 i (by omega)⟩
  have hp0z : s2 3035 = 0 := k10
  have eB : s2 3039 = s 3039 := f4 3039 (by decide)
  have eW : s2 3037 = s 3037 := f4 3037 (by decide)
  have eHh : s2 3038 = s 3038 := f4 3038 (by decide)
  have e31 : c3 31 = c 31 := g5 31 (by decide)
  clear k6 k7 k8 k9
  have hwk : wok W := by unfold wok; rw [hp4.2.1, hp4.2.2.1]; exact hp5
  have hpb := pl_begin (s := Z) (c := mB (Z 3024)) hp3 (fun i _ => rfl) (fun i _ => rfl) (fun i _ => rfl) (fun i _ => rfl)
  have hv0 : vX Z (s 3037) 0 0 (W, mB (Z 3024), 0, fun _ => 0) := ⟨pl_mono hpb.1 (by omega), tb_0, ⟨Int.le_refl 0, (by show (0 : Int) ≤ 22; decide)⟩, hwk, ⟨Int.le_refl 0, Int.le_refl 0⟩⟩
  refine tt_k 2 (S' := (6, [some (.inr (.inl 30)), some (.inl 0), none, none, none, none, none], [], n, D, s2, p, c3)) rfl ?_
  have b36 : -2147483648 ≤ (s2 3018) ∧ (s2 3018) ≤ 2147483647 := hS2 3018
  have b37 : -2147483648 ≤ (s2 3019) ∧ (s2 3019) ≤ 2147483647 := hS2 3019
  have b38 : -2147483648 ≤ (s2 3020) ∧ (s2 3020) ≤ 2147483647 := hS2 3020
  have b39 : -2147483648 ≤ (s2 3021) ∧ (s2 3021) ≤ 2147483647 := hS2 3021
  have b40 : 0 ≤ (s2 3022) ∧ (s2 3022) ≤ 65535 := hS2 3022
  have b41 : -2147483648 ≤ (s2 3023) ∧ (s2 3023) ≤ 2147483647 := hS2 3023
  have b42 : -2147483648 ≤ (s2 3024) ∧ (s2 3024) ≤ 2147483647 := hS2 3024
  have b43 : 0 ≤ (s2 3025) ∧ (s2 3025) ≤ 31 := hS2 3025
  have b44 : 0 ≤ (s2 3026) ∧ (s2 3026) ≤ 96 := hS2 3026
  refine x_plane_L6 (Zi := Zi) (D := D) (s := s2) (p := p) (c := c3) hd hS2 hC3 Z S (plX Z (s 3037) (s 3038) S 5000 0 0 (W, mB (Z 3024), 0, fun _ => 0)) (bX Z (W, mB (Z 3024), 0, fun _ => 0))  hx34 hp3 (by rw [eHh, eB, eW, e31]; exact hp6) (by rw [eHh, eW]; exact hp7) (show (s2 3036) = 1 ∧ (s2 3050) = 0 ∧ 1 ≤ (s2 3037) by omega) hp8 ?_ _ 0 (none) (none) (none) (none) (none) s2 c3 (by omega) hS2 fr_rf hC3 frc_rf (by rw [eW, eHh, eB]; exact ⟨(W, mB (Z 3024), 0, fun _ => 0), ⟨hv0, by omega, 5000, by omega, rfl⟩, hx35, hmB, hp0z, fun xx yy h1 h2 h3 h4 => absurd h4 (by omega)⟩) (show 0 ≤ (s2 3038) by omega) (Nat.lt_succ_self _)
  intro x45 x46 x47 x48 x49 x50 s51 c52 b53 hS51 f54 hC52 g55 i56 i57 hx58
  show tt Zi d 150 (210, [some (.inr (.inl 30)), some (.inl x45), x46, x47, x48, x49, x50], [], n, D, s51, p, c52) _
  have hc59 : mv s51 := mv_fr f54 (by decide) hc11
  have e60 : s51 3050 = (s2 3050) := (f54 3050 (by decide))
  have b61 : 0 ≤ (s51 3050) ∧ (s51 3050) ≤ 8 := hS51 3050
  have e62 : s51 3036 = (s2 3036) := (f54 3036 (by decide))
  have b63 : 0 ≤ (s51 3036) ∧ (s51 3036) ≤ 1 := hS51 3036
  have e64 : s51 3037 = (s2 3037) := (f54 3037 (by decide))
  have b65 : 0 ≤ (s51 3037) ∧ (s51 3037) ≤ 64 := hS51 3037
  have e66 : s51 3038 = (s2 3038) := (f54 3038 (by decide))
  have b67 : 0 ≤ (s51 3038) ∧ (s51 3038) ≤ 64 := hS51 3038
  have e68 : s51 3017 = (s2 3017) := (f54 3017 (by decide))
  have b69 : 0 ≤ (s51 3017) ∧ (s51 3017) ≤ 65535 := hS51 3017
  have e70 : s51 3039 = (s2 3039) := (f54 3039 (by decide))
  have b71 : 0 ≤ (s51 3039) ∧ (s51 3039) ≤ 8192 := hS51 3039
  have hx72 : zq Z (s51 3017) (s51 3018) (s51 3019) (s51 3020) (s51 3021) (s51 3022) (s51 3023) (s51 3024) (s51 3025) (s51 3026) := by rw [f54 3017 (by decide), f54 3018 (by decide), f54 3019 (by decide), f54 3020 (by decide), f54 3021 (by decide), f54 3022 (by decide), f54 3023 (by decide), f54 3024 (by decide), f54 3025 (by decide), f54 3026 (by decide)]; exact hx34
  have hr0 := i56
  rw [eW, eHh, eB] at hr0
  obtain ⟨X, hI, hwr, hmr, hpc, htr⟩ := hr0
  have hXR := plI_e hI (by omega)
  have hzz := plI_z hI (by omega) (by omega)
  have hcb := cb_bd (s := Z)
  have hcm : cb Z * (64 * x45 + 0) ≤ cb Z * 4096 := Int.mul_le_mul_of_nonneg_left (by omega) (by omega)
  have hwo9 : w_ok (s51 3047) (s51 3048) := by rw [← hwr.2.1, ← hwr.2.2.1]; exact hI.1.2.2.2.1
  have hz9 := hwr.1
  refine tt_k 2 (S' := (214, [some (.inr (.inl 30)), some (.inl x45), x46, x47, x48, x49, x50], [.inl (s51 3050)], n, D, s51, p, c52)) rfl ?_
  refine tz_ne (x := (s51 3050)) rfl rfl (by omega) (fun h73 => ?_) (fun h73 => ?_)
  · exfalso; omega
  · show tt Zi d 150 (217, [some (.inr (.inl 30)), some (.inl x45), x46, x47, x48, x49, x50], [], n, D, s51, p, c52) _
    refine tt_k 1 (S' := (218, [some (.inr (.inl 30)), some (.inl x45), x46, x47, x48, x49, x50], [.inr (.inl 30)], n, D, s51, p, c52)) rfl ?_
    refine tt_cl (by omega) rfl (x_keep (Zi := Zi) (D := D) (s := s51) (p := p) (c := c52) (by omega) hS51 hC52 X.2.1 hmr) ?_
    rintro _ _ ⟨c74, rfl, rfl, hC74, g75, k76⟩
    show tt Zi d 150 (221, [some (.inr (.inl 30)), some (.inl x45), x46, x47, x48, x49, x50], [], n, D, s51, p, c74) _
    replace k76 : mrl X.2.1 ((c74 40)) ((c74 41)) ((c74 42)) ((c74 43)) := k76
    have hx77 : wrl X.1 (s51 3016) (s51 3047) (s51 3048) (c74 35) := by rw [g75 35 (by decide)]; exact hwr
    exact tt_rtv rfl rfl ⟨s51, c74, rfl, rfl, hS51, hC74, (fr_tr (fr_tr fr_rf f4 (by decide)) f54 (by decide)), (frc_tr (frc_tr (frc_tr frc_rf g5 (by decide)) g55 (by decide)) g75 (by decide)), hwo9, by show wrl (plX Z (s 3037) (s 3038) S 5000 0 0 (W, mB (Z 3024), 0, fun _ => 0)).1 ((s51 3016)) ((s51 3047)) ((s51 3048)) ((c74 35)); have h := hx77; rw [hXR] at h; exact h, by show mrl (plX Z (s 3037) (s 3038) S 5000 0 0 (W, mB (Z 3024), 0, fun _ => 0)).2.1 ((c74 40)) ((c74 41)) ((c74 42)) ((c74 43)); have h := k76; rw [hXR] at h; exact h, by show 262144 * (s51 3016) ≤ bX Z (W, mB (Z 3024), 0, fun _ => 0) + cb Z * 4096; omega⟩
