/-! the reference reads a stop and a run, exactly -/
def stE (RS : Option (Int × XR)) (k : Int) (d : RDT) (pc : Int) (fa fb fc fn : Nat → Int) (base w x y : Int) (ft : Nat → Int) : Prop := ∃ X2 : XR, RS = some (k, X2) ∧ d = X2.1 ∧ mrl X2.2.1 fa fb fc fn ∧ pc = X2.2.2.1 ∧ trl X2.2.2.2 base w x y ft
/-- outside of a plane nothing changed -/
def ofr (b : Int) (f g : Nat → Int) : Prop := ∀ i : Nat, ((i : Int) < b ∨ b + 4096 ≤ i) → g i = f i
theorem ofr_rf {b : Int} {f : Nat → Int} : ofr b f f := fun _ _ => rfl
theorem ofr_tr {b : Int} {f g h : Nat → Int} (h1 : ofr b f g) (h2 : ofr b g h) : ofr b f h := fun i hi => (h2 i hi).trans (h1 i hi)
theorem ofr_ua {b a v : Int} {f g : Nat → Int} (h : ofr b f g) (ha : 0 ≤ b ∧ b ≤ a ∧ a < b + 4096) : ofr b f (ua g a.toNat v) := fun i hi => by
  rw [ua_ne (by omega)]
  exact h i hi
theorem ofr_fil {b a n v : Int} {f g : Nat → Int} (h : ofr b f g) (ha : 0 ≤ b ∧ b ≤ a ∧ a + n ≤ b + 4096) : ofr b f (fil g a.toNat n v) := fun i hi => by
  unfold fil
  rw [if_neg (by omega)]
  exact h i hi
theorem fil_z {T : Nat → Int} {j : Nat} {v : Int} : fil T j 0 v = T := by
  funext i
  unfold fil
  rw [if_neg (by omega)]
theorem fil_fil {T : Nat → Int} {x y n k v : Int} (hx : 0 ≤ x) (hy : 0 ≤ y) (hn : 0 ≤ n) (hk : 0 ≤ k := by omega) : fil (fil T (64 * y + x).toNat n v) (64 * y + (x + n)).toNat k v = fil T (64 * y + x).toNat (n + k) v := by
  funext i
  unfold fil
  by_cases h1 : ((64 * y + (x + n)).toNat : Int) ≤ i ∧ (i : Int) < (64 * y + (x + n)).toNat + k
  · rw [if_pos h1, if_pos (by omega)]
  · rw [if_neg h1]
    by_cases h2 : ((64 * y + x).toNat : Int) ≤ i ∧ (i : Int) < (64 * y + x).toNat + n
    · rw [if_pos h2, if_pos (by omega)]
    · rw [if_neg h2, if_neg (by omega)]
/-- behind a run -/
def rnB (A : TN) (Z : Nat → Int) (w y x a : Int) (X : XR) (RR : Option (Int × Int × RDT)) : Option (Int × XR) := RR.bind fun u =>
    if x + u.1 < w then (rStp A Z a (nB X.2.2.2 (x + u.1) y) (64 * y + (x + u.1)).toNat (u.2.2, X.2.1, u.2.1, fil X.2.2.2 (64 * y + x).toNat u.1 a)).bind fun X2 => some (u.1 + 1, X2)
    else some (u.1, u.2.2, X.2.1, u.2.1, fil X.2.2.2 (64 * y + x).toNat u.1 a)
section RNB
variable {A : TN} {Z : Nat → Int} {w y x a n p : Int} {X X2 : XR} {d : RDT}
theorem rnB_n : rnB A Z w y x a X none = none := rfl
theorem rnB_e (hn : ¬ x + n < w) : rnB A Z w y x a X (some (n, p, d)) = some (n, d, X.2.1, p, fil X.2.2.2 (64 * y + x).toNat n a) := by
  show (if x + n < w then _ else some (n, d, X.2.1, p, fil X.2.2.2 (64 * y + x).toNat n a)) = _
  rw [if_neg hn]
theorem rnB_s (hn : x + n < w) (hs : rStp A Z a (nB X.2.2.2 (x + n) y) (64 * y + (x + n)).toNat (d, X.2.1, p, fil X.2.2.2 (64 * y + x).toNat n a) = some X2) : rnB A Z w y x a X (some (n, p, d)) = some (n + 1, X2) := by
  show (if x + n < w then (rStp A Z a (nB X.2.2.2 (x + n) y) (64 * y + (x + n)).toNat (d, X.2.1, p, fil X.2.2.2 (64 * y + x).toNat n a)).bind (fun X3 => some (n + 1, X3)) else _) = _
  rw [if_pos hn, hs, bd_s]
theorem rnB_x (hn : x + n < w) (hs : rStp A Z a (nB X.2.2.2 (x + n) y) (64 * y + (x + n)).toNat (d, X.2.1, p, fil X.2.2.2 (64 * y + x).toNat n a) = none) : rnB A Z w y x a X (some (n, p, d)) = none := by
  show (if x + n < w then (rStp A Z a (nB X.2.2.2 (x + n) y) (64 * y + (x + n)).toNat (d, X.2.1, p, fil X.2.2.2 (64 * y + x).toNat n a)).bind (fun X3 => some (n + 1, X3)) else _) = _
  rw [if_pos hn, hs, bd_n]
end RNB
set_option maxRecDepth 100000 in
set_option maxHeartbeats 4000000 in
theorem v_stop {Zi : Nat → Option (Nat × (Nat → Int))} {d n : Nat} {D : Nat → Nat × Nat} {s : Nat → Int} {p : Nat → Nat} {c : Nat → Nat → Int} (hd : 5 ≤ d) (hS : bS s) (hC : bC D c) (t : Int) (Z : Nat → Int) (M : MT) (A : TN) (T : Nat → Int) (x : Int) (y : Int) (run : Int) (b_x : 0 ≤ x ∧ x ≤ 63) (b_y : 0 ≤ y ∧ y ≤ 63) (b_run : 0 ≤ run ∧ run ≤ 65535) (hp0 : mv s) (hp1 : s 3036 = 0 ∧ s 3050 = 0 ∧ x < s 3037) (hp2 : run ≤ s 3017) (hp3 : pl s t c) (hp4 : 0 ≤ t ∧ t ≤ 4095) (hp5 : tpl A (s 3014) (c 34)) (hp6 : s 3049 ≤ s 3014) (hp7 : (0 ≤ s 3054 ∧ s 3054 ≤ 8) ∧ (0 ≤ s 3052 ∧ s 3052 ≤ 255)) (hp8 : 0 ≤ s 3035 ∧ s 3035 ≤ 22) (hp9 : zq Z (s 3017) (s 3018) (s 3019) (s 3020) (s 3021) (s 3022) (s 3023) (s 3024) (s 3025) (s 3026)) (hp10 : s 3050 = 0) (hp11 : mrl M (c 36) (c 37) (c 38) (c 39)) (hp12 : 0 ≤ s 3049) (hp13 : tb (s 3037) (s 3039) (s 3017) (c 44) x y) (hp14 : trl T (s 3039) (s 3037) x y (c 44)) (hp15 : 0 ≤ c 37 365 ∧ 0 ≤ c 37 366) : tt Zi d 161 (0, [some (.inr (.inl 30)), some (.inl x), some (.inl y), some (.inl run), none, none, none, none, none, none, none, none, none], [], n, D, s, p, c) (fun R H => ∃ (s' : Nat → Int) (c' : Nat → Nat → Int), R = .inl none ∧ H = (n, D, s', p, c') ∧ bS s' ∧ bC D c' ∧ fr s s' [3035, 3041, 3042, 3043, 3044, 3045, 3046, 3049, 3050, 3051, 3052, 3053, 3054] ∧ frc c c' [36, 37, 39, 44] ∧ (s' 3050 = 0 → ∃ q, (rdNum A (kS M (sS Z run (nB T x y))) (Z 3026 - 1 - jj (s 3035) - Z 3025 - 1) (Z 3025) (s 3049, s 3052, s 3054)) = some (q, s' 3049, s' 3052, s' 3054) ∧ (-(Z 3024 / 2) ≤ (eT q (sS Z run (nB T x y)) (oS M (sS Z run (nB T x y)))) ∧ (eT q (sS Z run (nB T x y)) (oS M (sS Z run (nB T x y)))) ≤ (Z 3024 - 1) / 2) ∧ mrl (mStp Z M (365 + (sS Z run (nB T x y))).toNat (eT q (sS Z run (nB T x y)) (oS M (sS Z run (nB T x y)))) ((q + 1 - (sS Z run (nB T x y))) / 2)) (c' 36) (c' 37) (c' 38) (c' 39) ∧ c' 44 = ua (c 44) (s 3039 + 64 * y + x).toNat (rR Z (gS Z run (nB T x y)) (tS Z run (nB T x y)) (eT q (sS Z run (nB T x y)) (oS M (sS Z run (nB T x y))))) ∧ s' 3035 = (if 0 < s 3035 then s 3035 - 1 else 0)) ∧ (s' 3050 ≠ 0 → rqN Z (fun q => (eT q (sS Z run (nB T x y)) (oS M (sS Z run (nB T x y))))) (rdNum A (kS M (sS Z run (nB T x y))) (Z 3026 - 1 - jj (s 3035) - Z 3025 - 1) (Z 3025) (s 3049, s 3052, s 3054))) ∧ (s' 3050 = 0 → (0 ≤ s' 3054 ∧ s' 3054 ≤ 8) ∧ (0 ≤ s' 3052 ∧ s' 3052 ≤ 255)) ∧ (s' 3050 = 0 → s' 3049 ≤ s 3014)) := by
  have mvx := mv_fx hp0
  have b1 : 0 ≤ (s 3052) ∧ (s 3052) ≤ 255 := hS 3052
  have b2 : 0 ≤ (s 3054) ∧ (s 3054) ≤ 8 := hS 3054
  have b3 : 0 ≤ (s 3049) ∧ (s 3049) ≤ 32769 := hS 3049
  have b4 : 0 ≤ (s 3014) ∧ (s 3014) ≤ 32768 := hS 3014
  refine tt_k 3 (S' := (3, [some (.inr (.inl 30)), some (.inl x), some (.inl y), some (.inl run), none, none, none, none, none, none, none, none, none], [.inl y, .inl x, .inr (.inl 30)], n, D, s, p, c)) rfl ?_
  have b5 : 0 ≤ (s 3037) ∧ (s 3037) ≤ 64 := hS 3037
  have b6 : 0 ≤ (s 3039) ∧ (s 3039) ≤ 8192 := hS 3039
  have b7 : 0 ≤ (s 3017) ∧ (s 3017) ≤ 65535 := hS 3017
  refine tt_cl (by omega) rfl (y_neighbours (Zi := Zi) (D := D) (s := s) (p := p) (c := c) (by omega) hS hC T x y (by omega) (by omega) (show x < (s 3037) by omega) hp13 hp14) ?_
  rintro _ _ ⟨s8, rfl, rfl, hS8, f9, k10, k11, k12, k13, k14⟩
  have hc15 : mv s8 := mv_fr f9 (by decide) hp0
  show tt Zi d 161 (6, [some (.inr (.inl 30)), some (.inl x), some (.inl y), some (.inl run), none, none, none, none, none, none, none, none, none], [], n, D, s8, p, c) _
  replace k10 : (0 ≤ (s8 3041) ∧ (s8 3041) ≤ (s 3017)) ∧ (0 ≤ (s8 3042) ∧ (s8 3042) ≤ (s 3017)) ∧ (0 ≤ (s8 3043) ∧ (s8 3043) ≤ (s 3017)) ∧ (0 ≤ (s8 3044) ∧ (s8 3044) ≤ (s 3017)) := k10
  replace k11 : (s8 3041) = nA T x y := k11
  replace k12 : (s8 3042) = nB T x y := k12
  replace k13 : (s8 3043) = nC T x y := k13
  replace k14 : (s8 3044) = nD T ((s 3037)) x y := k14
  have b16 : 0 ≤ (s8 3041) ∧ (s8 3041) ≤ 65535 := hS8 3041
  have b17 : 0 ≤ (s8 3042) ∧ (s8 3042) ≤ 65535 := hS8 3042
  have b18 : 0 ≤ (s8 3043) ∧ (s8 3043) ≤ 65535 := hS8 3043
  have b19 : 0 ≤ (s8 3044) ∧ (s8 3044) ≤ 65535 := hS8 3044
  have e20 : s8 3036 = (s 3036) := (f9 3036 (by decide))
  have b21 : 0 ≤ (s8 3036) ∧ (s8 3036) ≤ 1 := hS8 3036
  have b22 : 0 ≤ (s 3036) ∧ (s 3036) ≤ 1 := hS 3036
  have e23 : s8 3050 = (s 3050) := (f9 3050 (by decide))
  have b24 : 0 ≤ (s8 3050) ∧ (s8 3050) ≤ 8 := hS8 3050
  have b25 : 0 ≤ (s 3050) ∧ (s 3050) ≤ 8 := hS 3050
  have e26 : s8 3037 = (s 3037) := (f9 3037 (by decide))
  have b27 : 0 ≤ (s8 3037) ∧ (s8 3037) ≤ 64 := hS8 3037
  have e28 : s8 3017 = (s 3017) := (f9 3017 (by decide))
  have b29 : 0 ≤ (s8 3017) ∧ (s8 3017) ≤ 65535 := hS8 3017
  have e30 : s8 3035 = (s 3035) := (f9 3035 (by decide))
  have b31 : 0 ≤ (s8 3035) ∧ (s8 3035) ≤ 31 := hS8 3035
  have b32 : 0 ≤ (s 3035) ∧ (s 3035) ≤ 31 := hS 3035
  have e33 : s8 3049 = (s 3049) := (f9 3049 (by decide))
  have b34 : 0 ≤ (s8 3049) ∧ (s8 3049) ≤ 32769 := hS8 3049
  have e35 : s8 3014 = (s 3014) := (f9 3014 (by decide))
  have b36 : 0 ≤ (s8 3014) ∧ (s8 3014) ≤ 32768 := hS8 3014
  have e37 : s8 3052 = (s 3052) := (f9 3052 (by decide))
  have b38 : 0 ≤ (s8 3052) ∧ (s8 3052) ≤ 255 := hS8 3052
  have e39 : s8 3054 = (s 3054) := (f9 3054 (by decide))
  have b40 : 0 ≤ (s8 3054) ∧ (s8 3054) ≤ 8 := hS8 3054
  have hx41 : tpl A (s8 3014) (c 34) := by rw [f9 3014 (by decide)]; exact hp5
  have hx42 : zq Z (s8 3017) (s8 3018) (s8 3019) (s8 3020) (s8 3021) (s8 3022) (s8 3023) (s8 3024) (s8 3025) (s8 3026) := by rw [f9 3017 (by decide), f9 3018 (by decide), f9 3019 (by decide), f9 3020 (by decide), f9 3021 (by decide), f9 3022 (by decide), f9 3023 (by decide), f9 3024 (by decide), f9 3025 (by decide), f9 3026 (by decide)]; exact hp9
  have aP : s8 3035 = s 3035 := f9 3035 (by decide)
  have aQ : s8 3025 = s 3025 := f9 3025 (by decide)
  have aB : s8 3039 = s 3039 := f9 3039 (by decide)
  have aM : s8 3017 = s 3017 := f9 3017 (by decide)
  have aA : s8 3049 = s 3049 := f9 3049 (by decide)
  have aN : s8 3052 = s 3052 := f9 3052 (by decide)
  have aL : s8 3054 = s 3054 := f9 3054 (by decide)
  have b43 : -2147483648 ≤ (s8 3018) ∧ (s8 3018) ≤ 2147483647 := hS8 3018
  have b44 : -2147483648 ≤ (s8 3019) ∧ (s8 3019) ≤ 2147483647 := hS8 3019
  have b45 : -2147483648 ≤ (s8 3020) ∧ (s8 3020) ≤ 2147483647 := hS8 3020
  have b46 : -2147483648 ≤ (s8 3021) ∧ (s8 3021) ≤ 2147483647 := hS8 3021
  have b47 : 0 ≤ (s8 3022) ∧ (s8 3022) ≤ 65535 := hS8 3022
  have b48 : -2147483648 ≤ (s8 3023) ∧ (s8 3023) ≤ 2147483647 := hS8 3023
  have b49 : -2147483648 ≤ (s8 3024) ∧ (s8 3024) ≤ 2147483647 := hS8 3024
  have b50 : 0 ≤ (s8 3025) ∧ (s8 3025) ≤ 31 := hS8 3025
  have b51 : 0 ≤ (s8 3026) ∧ (s8 3026) ≤ 96 := hS8 3026
  refine tt_mono (v_stopC (Zi := Zi) (D := D) (s := s8) (p := p) (c := c) (by omega) hS8 hC t Z M A (nB T x y) x y run (by omega) (by omega) (by omega) hc15 (show (s8 3036) = 0 ∧ (s8 3050) = 0 ∧ x < (s8 3037) by omega) (show run ≤ (s8 3017) by omega) (pl_eq aQ rfl rfl rfl rfl hp3) hp4 hx41 (show (s8 3049) ≤ (s8 3014) by omega) (show (0 ≤ (s8 3054) ∧ (s8 3054) ≤ 8) ∧ (0 ≤ (s8 3052) ∧ (s8 3052) ≤ 255) by omega) (show 0 ≤ (s8 3035) ∧ (s8 3035) ≤ 22 by omega) hx42 (show (s8 3050) = 0 by omega) hp11 (show 0 ≤ (s8 3049) by omega) ⟨k12, by rw [← k12]; omega, by rw [← k12]; omega⟩ (show 0 ≤ (c 37) 365 ∧ 0 ≤ (c 37) 366 by omega)) ?_
  rintro _ _ ⟨s52, c53, rfl, rfl, hS52, hC53, f54, g55, k56, k57, k58, k59⟩
  exact ⟨s52, c53, rfl, rfl, hS52, hC53, (fr_tr (fr_tr fr_rf f9 (by decide)) f54 (by decide)), (frc_tr frc_rf g55 (by decide)), by show (s52 3050) = 0 → ∃ q, (rdNum A (kS M (sS Z run (nB T x y))) (Z 3026 - 1 - jj (s 3035) - Z 3025 - 1) (Z 3025) (s 3049, s 3052, s 3054)) = some (q, (s52 3049), (s52 3052), (s52 3054)) ∧ (-(Z 3024 / 2) ≤ (eT q (sS Z run (nB T x y)) (oS M (sS Z run (nB T x y)))) ∧ (eT q (sS Z run (nB T x y)) (oS M (sS Z run (nB T x y)))) ≤ (Z 3024 - 1) / 2) ∧ mrl (mStp Z M (365 + (sS Z run (nB T x y))).toNat (eT q (sS Z run (nB T x y)) (oS M (sS Z run (nB T x y)))) ((q + 1 - (sS Z run (nB T x y))) / 2)) ((c53 36)) ((c53 37)) ((c53 38)) ((c53 39)) ∧ (c53 44) = ua (c 44) (s 3039 + 64 * y + x).toNat (rR Z (gS Z run (nB T x y)) (tS Z run (nB T x y)) (eT q (sS Z run (nB T x y)) (oS M (sS Z run (nB T x y))))) ∧ (s52 3035) = (if 0 < s 3035 then s 3035 - 1 else 0); have h := k56; rw [aA, aN, aL, aP, aB] at h; exact h, by show (s52 3050) ≠ 0 → rqN Z (fun q => (eT q (sS Z run (nB T x y)) (oS M (sS Z run (nB T x y))))) (rdNum A (kS M (sS Z run (nB T x y))) (Z 3026 - 1 - jj (s 3035) - Z 3025 - 1) (Z 3025) (s 3049, s 3052, s 3054)); have h := k57; rw [aA, aN, aL, aP] at h; exact h, k58, by show (s52 3050) = 0 → (s52 3049) ≤ s 3014; omega⟩
set_option maxRecDepth 100000 in
set_option maxHeartbeats 16000000 in
theorem v_readRun_L11 {Zi : Nat → Option (Nat × (Nat → Int))} {d n : Nat} {D : Nat → Nat × Nat} {s : Nat → Int} {p : Nat → Nat} {c : Nat → Nat → Int}  {Q : mi_Rs → mi_H → Prop} (hd : 6 ≤ d) (hS : bS s) (hC : bC D c) (Z : Nat → Int) (A : TN) (X : XR) (RR : Option (Int × Int × RDT)) (RS : Option (Int × XR)) (x : Int) (y : Int) (run : Int) (b_x : 0 ≤ x ∧ x ≤ 63) (b_y : 0 ≤ y ∧ y ≤ 63) (b_run : 0 ≤ run ∧ run ≤ 65535) (hc_mv : mv s) (hq0 : s 3036 = 0 ∧ x < s 3037 ∧ s 3037 ≤ 64) (hq1 : run ≤ s 3017) (hq2 : 0 ≤ s 3039 ∧ s 3039 ≤ 8192) (hq3 : 0 ≤ 0) (hq4 : tpl A (s 3014) (c 34)) (hq5 : zq Z (s 3017) (s 3018) (s 3019) (s 3020) (s 3021) (s 3022) (s 3023) (s 3024) (s 3025) (s 3026)) (hq6 : mv Z) (hq7 : vQ Z (s 3037) y x X) (hq8 : RS = rnB A Z (s 3037) y x run X RR) (hq9 : run = nA X.2.2.2 x y)
  (hK : ∀ (n_ : Int) (mo : Int) (o_6 : Option mi_V) (o_7 : Option mi_V) (o_8 : Option mi_V) (s0 : Nat → Int) (c0 : Nat → Nat → Int) (b_n_ : 0 ≤ n_ ∧ n_ ≤ 64) (b_mo : 0 ≤ mo ∧ mo ≤ 1) (hS0 : bS s0) (hF0 : fr s s0 [3035, 3041, 3042, 3043, 3044, 3045, 3046, 3049, 3050, 3051, 3052, 3053, 3054]) (hC0 : bC D c0) (hG0 : frc c c0 [36, 37, 39, 44]) (i0 : s0 3050 = 0 → mo = 1 → (uI A (s 3037 - x) RR n_ (s0 3035) (s0 3049, s0 3052, s0 3054) ∧ mrl X.2.1 (c0 36) (c0 37) (c0 38) (c0 39) ∧ trl (fil X.2.2.2 (64 * y + x).toNat n_ run) (s 3039) (s 3037) (x + n_) y (c0 44))) (i1 : s0 3050 = 0 → mo ≠ 1 → stE RS n_ (s0 3049, s0 3052, s0 3054) (s0 3035) (c0 36) (c0 37) (c0 38) (c0 39) (s 3039) (s 3037) (x + n_) y (c0 44)) (i2 : s0 3050 ≠ 0 → RS = none) (i3 : s0 3050 = 0 → (0 ≤ s0 3054 ∧ s0 3054 ≤ 8) ∧ (0 ≤ s0 3052 ∧ s0 3052 ≤ 255)) (i4 : s0 3050 = 0 → s0 3049 ≤ s 3014) (i5 : s0 3050 = 0 → 0 ≤ s0 3035 ∧ s0 3035 ≤ 22) (i6 : x + n_ ≤ s 3037) (i7 : mo = 1 → x + n_ < s 3037) (i8 : s0 3050 = 0 → ofr (s 3039) (c 44) (c0 44)), (mo = 0 ∨ s0 3050 ≠ 0) → tt Zi d 172 (232, [some (.inr (.inl 30)), some (.inl x), some (.inl y), some (.inl run), some (.inl n_), some (.inl mo), o_6, o_7, o_8], [], n, D, s0, p, c0) Q) :
  ∀ (m : Nat) (n_ : Int) (mo : Int) (o_6 : Option mi_V) (o_7 : Option mi_V) (o_8 : Option mi_V) (s0 : Nat → Int) (c0 : Nat → Nat → Int) (b_n_ : 0 ≤ n_ ∧ n_ ≤ 64) (b_mo : 0 ≤ mo ∧ mo ≤ 1) (hS0 : bS s0) (hF0 : fr s s0 [3035, 3041, 3042, 3043, 3044, 3045, 3046, 3049, 3050, 3051, 3052, 3053, 3054]) (hC0 : bC D c0) (hG0 : frc c c0 [36, 37, 39, 44]) (i0 : s0 3050 = 0 → mo = 1 → (uI A (s 3037 - x) RR n_ (s0 3035) (s0 3049, s0 3052, s0 3054) ∧ mrl X.2.1 (c0 36) (c0 37) (c0 38) (c0 39) ∧ trl (fil X.2.2.2 (64 * y + x).toNat n_ run) (s 3039) (s 3037) (x + n_) y (c0 44))) (i1 : s0 3050 = 0 → mo ≠ 1 → stE RS n_ (s0 3049, s0 3052, s0 3054) (s0 3035) (c0 36) (c0 37) (c0 38) (c0 39) (s 3039) (s 3037) (x + n_) y (c0 44)) (i2 : s0 3050 ≠ 0 → RS = none) (i3 : s0 3050 = 0 → (0 ≤ s0 3054 ∧ s0 3054 ≤ 8) ∧ (0 ≤ s0 3052 ∧ s0 3052 ≤ 255)) (i4 : s0 3050 = 0 → s0 3049 ≤ s 3014) (i5 : s0 3050 = 0 → 0 ≤ s0 3035 ∧ s0 3035 ≤ 22) (i6 : x + n_ ≤ s 3037) (i7 : mo = 1 → x + n_ < s 3037) (i8 : s0 3050 = 0 → ofr (s 3039) (c 44) (c0 44)), (if mo = 1 ∧ s0 3050 = 0 then s 3037 - x - n_ + 1 else 0).toNat < m → tt Zi d 172 (11, [some (.inr (.inl 30)), some (.inl x), some (.inl y), some (.inl run), some (.inl n_), some (.inl mo), o_6, o_7, o_8], [], n, D, s0, p, c0) Q := by
  intro m
  induction m with
  | zero => intro n_ mo o_6 o_7 o_8 s0 c0 b_n_ b_mo hS0 hF0 hC0 hG0 i0 i1 i2 i3 i4 i5 i6 i7 i8 hm; exact absurd hm (by omega)
  | succ m ih =>
    intro n_ mo o_6 o_7 o_8 s0 c0 b_n_ b_mo hS0 hF0 hC0 hG0 i0 i1 i2 i3 i4 i5 i6 i7 i8 hm
    have e1 : s0 3039 = s 3039 := hF0 3039 (by decide)
    have b2 : 0 ≤ (s0 3039) ∧ (s0 3039) ≤ 8192 := hS0 3039
    have b3 : 0 ≤ (s 3039) ∧ (s 3039) ≤ 8192 := hS 3039
    have e4 : s0 3017 = s 3017 := hF0 3017 (by decide)
    have b5 : 0 ≤ (s0 3017) ∧ (s0 3017) ≤ 65535 := hS0 3017
    have b6 : 0 ≤ (s 3017) ∧ (s 3017) ≤ 65535 := hS 3017
    have e7 : s0 3037 = s 3037 := hF0 3037 (by decide)
    have b8 : 0 ≤ (s0 3037) ∧ (s0 3037) ≤ 64 := hS0 3037
    have b9 : 0 ≤ (s 3037) ∧ (s 3037) ≤ 64 := hS 3037
    have e10 : s0 3014 = s 3014 := hF0 3014 (by decide)
    have b11 : 0 ≤ (s0 3014) ∧ (s0 3014) ≤ 32768 := hS0 3014
    have b12 : 0 ≤ (s 3014) ∧ (s 3014) ≤ 32768 := hS 3014
    have e13 : s0 3036 = s 3036 := hF0 3036 (by decide)
    have b14 : 0 ≤ (s0 3036) ∧ (s0 3036) ≤ 1 := hS0 3036
    have b15 : 0 ≤ (s 3036) ∧ (s 3036) ≤ 1 := hS 3036
    have e16 : s0 3025 = s 3025 := hF0 3025 (by decide)
    have b17 : 0 ≤ (s0 3025) ∧ (s0 3025) ≤ 31 := hS0 3025
    have b18 : 0 ≤ (s 3025) ∧ (s 3025) ≤ 31 := hS 3025
    have hc0_mv : mv s0 := mv_fr hF0 (by decide) hc_mv
    have htp : tpl A (s0 3014) (c0 34) := by rw [hF0 3014 (by decide), hG0 34 (by decide)]; exact hq4
    have hz0 : zq Z (s0 3017) (s0 3018) (s0 3019) (s0 3020) (s0 3021) (s0 3022) (s0 3023) (s0 3024) (s0 3025) (s0 3026) := by rw [hF0 3017 (by decide), hF0 3018 (by decide), hF0 3019 (by decide), hF0 3020 (by decide), hF0 3021 (by decide), hF0 3022 (by decide), hF0 3023 (by decide), hF0 3024 (by decide), hF0 3025 (by decide), hF0 3026 (by decide)]; exact hq5
    have mvx := mv_fx (s := Z) hq6
    have hzc := hz0
    obtain ⟨z0, z1, z2, z3, z4, z5, z6, z7, z8, z9⟩ := hzc
    have b19 : 0 ≤ (s0 3049) ∧ (s0 3049) ≤ 32769 := hS0 3049
    have b20 : 0 ≤ (s0 3052) ∧ (s0 3052) ≤ 255 := hS0 3052
    have b21 : 0 ≤ (s0 3054) ∧ (s0 3054) ≤ 8 := hS0 3054
    have b22 : 0 ≤ (s0 3050) ∧ (s0 3050) ≤ 8 := hS0 3050
    have b23 : 0 ≤ (s0 3035) ∧ (s0 3035) ≤ 31 := hS0 3035
    have b24 : 0 ≤ (s 3049) ∧ (s 3049) ≤ 32769 := hS 3049
    refine tt_k 1 (S' := (13, [some (.inr (.inl 30)), some (.inl x), some (.inl y), some (.inl run), some (.inl n_), some (.inl mo), o_6, o_7, o_8], [.inl mo], n, D, s0, p, c0)) rfl ?_
    refine tz_eq (x := mo) rfl rfl (by omega) (fun h25 => ?_) (fun h25 => ?_)
    · show tt Zi d 172 (232, [some (.inr (.inl 30)), some (.inl x), some (.inl y), some (.inl run), some (.inl n_), some (.inl mo), o_6, o_7, o_8], [], n, D, s0, p, c0) _
      exact hK n_ mo (o_6) (o_7) (o_8) s0 c0 (by omega) (by omega) hS0 hF0 hC0 hG0 i0 i1 i2 i3 i4 i5 i6 i7 i8 (by omega)
    · show tt Zi d 172 (16, [some (.inr (.inl 30)), some (.inl x), some (.inl y), some (.inl run), some (.inl n_), some (.inl mo), o_6, o_7, o_8], [], n, D, s0, p, c0) _
      refine tt_k 2 (S' := (20, [some (.inr (.inl 30)), some (.inl x), some (.inl y), some (.inl run), some (.inl n_), some (.inl mo), o_6, o_7, o_8], [.inl (s0 3050)], n, D, s0, p, c0)) rfl ?_
      refine tz_ne (x := (s0 3050)) rfl rfl (by omega) (fun h26 => ?_) (fun h26 => ?_)
      · show tt Zi d 172 (232, [some (.inr (.inl 30)), some (.inl x), some (.inl y), some (.inl run), some (.inl n_), some (.inl mo), o_6, o_7, o_8], [], n, D, s0, p, c0) _
        exact hK n_ mo (o_6) (o_7) (o_8) s0 c0 (by omega) (by omega) hS0 hF0 hC0 hG0 i0 i1 i2 i3 i4 i5 i6 i7 i8 (by omega)
      · show tt Zi d 172 (23, [some (.inr (.inl 30)), some (.inl x), some (.inl y), some (.inl run), some (.inl n_), some (.inl mo), o_6, o_7, o_8], [], n, D, s0, p, c0) _
        have hfa0 : s0 3050 = 0 := by omega
        have hmo1 : mo = 1 := by omega
        obtain ⟨hu, hmr, htr⟩ := i0 hfa0 hmo1
        have j3_ := i3 hfa0
        have j4_ := i4 hfa0
        have j5_ := i5 hfa0
        have j7_ := i7 hmo1
        have j8_ := i8 hfa0
        rw [if_pos ⟨hmo1, hfa0⟩] at hm
        clear i0 i1 i2 i3 i4 i5 i7 i8
        have hjb := jj_bd (p := s0 3035) (by omega)
        have hj7 := jj_7 (p := s0 3035) (by omega)
        have hpj := mi_pw (a := (jj (s0 3035)).toNat) (b := 7) (by omega)
        have hp7 : (2 : Int) ^ 7 = 128 := by decide
        have hp1 : (1 : Int) ≤ 2 ^ (jj (s0 3035)).toNat := Int.pow_pos (by decide)
        refine tt_k 1 (S' := (24, [some (.inr (.inl 30)), some (.inl x), some (.inl y), some (.inl run), some (.inl n_), some (.inl mo), o_6, o_7, o_8], [.inr (.inl 30)], n, D, s0, p, c0)) rfl ?_
        refine tt_cl (by omega) rfl (y_ready (Zi := Zi) (D := D) (s := s0) (p := p) (c := c0) (by omega) hS0 hC0 A htp (show (s0 3050) = 0 by omega) (show (0 ≤ (s0 3054) ∧ (s0 3054) ≤ 8) ∧ (0 ≤ (s0 3052) ∧ (s0 3052) ≤ 255) by omega) (show (s0 3049) ≤ (s0 3014) by omega)) ?_
        rintro _ _ ⟨s27, rfl, rfl, hS27, f28, k29, k30, k31, k32⟩
        have hc33 : mv s27 := mv_fr f28 (by decide) hc0_mv
        show tt Zi d 172 (27, [some (.inr (.inl 30)), some (.inl x), some (.inl y), some (.inl run), some (.inl n_), some (.inl mo), o_6, o_7, o_8], [], n, D, s27, p, c0) _
        replace k29 : (s27 3050) = 0 → rdRdy A ((s0 3049), (s0 3052), (s0 3054)) = some ((s27 3049), (s27 3052), (s27 3054)) := k29
        replace k30 : (s27 3050) ≠ 0 → rdRdy A ((s0 3049), (s0 3052), (s0 3054)) = none := k30
        replace k31 : (s27 3050) = 0 → (1 ≤ (s27 3054) ∧ (s27 3054) ≤ 8) ∧ (0 ≤ (s27 3052) ∧ (s27 3052) ≤ 255) := k31
        replace k32 : (s27 3049) ≤ (s0 3014) := k32
        have b34 : 0 ≤ (s27 3050) ∧ (s27 3050) ≤ 8 := hS27 3050
        have b35 : 0 ≤ (s27 3049) ∧ (s27 3049) ≤ 32769 := hS27 3049
        have b36 : 0 ≤ (s27 3052) ∧ (s27 3052) ≤ 255 := hS27 3052
        have b37 : 0 ≤ (s27 3054) ∧ (s27 3054) ≤ 8 := hS27 3054
        have e38 : s27 3039 = (s0 3039) := (f28 3039 (by decide))
        have b39 : 0 ≤ (s27 3039) ∧ (s27 3039) ≤ 8192 := hS27 3039
        have e40 : s27 3017 = (s0 3017) := (f28 3017 (by decide))
        have b41 : 0 ≤ (s27 3017) ∧ (s27 3017) ≤ 65535 := hS27 3017
        have e42 : s27 3037 = (s0 3037) := (f28 3037 (by decide))
        have b43 : 0 ≤ (s27 3037) ∧ (s27 3037) ≤ 64 := hS27 3037
        have e44 : s27 3035 = (s0 3035) := (f28 3035 (by decide))
        have b45 : 0 ≤ (s27 3035) ∧ (s27 3035) ≤ 31 := hS27 3035
        have e46 : s27 3014 = (s0 3014) := (f28 3014 (by decide))
        have b47 : 0 ≤ (s27 3014) ∧ (s27 3014) ≤ 32768 := hS27 3014
        have e48 : s27 3036 = (s0 3036) := (f28 3036 (by decide))
        have b49 : 0 ≤ (s27 3036) ∧ (s27 3036) ≤ 1 := hS27 3036
        have e50 : s27 3025 = (s0 3025) := (f28 3025 (by decide))
        have b51 : 0 ≤ (s27 3025) ∧ (s27 3025) ≤ 31 := hS27 3025
        have hx52 : tpl A (s27 3014) (c0 34) := by rw [f28 3014 (by decide)]; exact htp
        have hx53 : zq Z (s27 3017) (s27 3018) (s27 3019) (s27 3020) (s27 3021) (s27 3022) (s27 3023) (s27 3024) (s27 3025) (s27 3026) := by rw [f28 3017 (by decide), f28 3018 (by decide), f28 3019 (by decide), f28 3020 (by decide), f28 3021 (by decide), f28 3022 (by decide), f28 3023 (by decide), f28 3024 (by decide), f28 3025 (by decide), f28 3026 (by decide)]; exact hz0
        by_cases hf1 : s27 3050 = 0
        · skip
          have qr0 := k29 hf1
          have qr2 := k31 hf1
          clear k29 k30 k31
          refine tt_k 5 (S' := (35, [some (.inr (.inl 30)), some (.inl x), some (.inl y), some (.inl run), some (.inl n_), some (.inl mo), some (.inl (s27 3053)), o_7, o_8], [.inr (.inl 30), .inl 1], n, D, s27, p, c0)) rfl ?_
          refine tt_cl (by omega) rfl (k_piecesJ (Zi := Zi) (D := D) (s := s27) (p := p) (c := c0) (by omega) hS27 hC0 (show 0 ≤ (s27 3035) ∧ (s27 3035) ≤ 22 by omega)) ?_
          rintro _ _ ⟨r54, rfl, rfl, b55, k56⟩
          show tt Zi d 172 (38, [some (.inr (.inl 30)), some (.inl x), some (.inl y), some (.inl run), some (.inl n_), some (.inl mo), some (.inl (s27 3053)), o_7, o_8], [.inl r54, .inl 1], n, D, s27, p, c0) _
          replace k56 : r54 = jj ((s27 3035)) := k56
          have hpP : (s27 3035) = s0 3035 := by omega
          have hpc_ : mi_shl 1 r54 = 2 ^ (jj (s0 3035)).toNat := by rw [mi_shl1i (by omega) (by omega), k56, hpP]
          have hj6 : mi_shl 1 r54 ≤ 64 → s0 3035 ≤ 21 := fun h => by have h2 := jj_le6 (p := s0 3035) (by omega) (by omega); omega
          refine tt_k 3 (S' := (42, [some (.inr (.inl 30)), some (.inl x), some (.inl y), some (.inl run), some (.inl n_), some (.inl mo), some (.inl (s27 3053)), some (.inl (mi_shl 1 r54)), o_8], [.inr (.inl 30)], n, D, s27, p, c0)) rfl ?_
          refine tt_cl (by omega) rfl (y_bit (Zi := Zi) (D := D) (s := s27) (p := p) (c := c0) (by omega) hS27 hC0 A hx52 (show (s27 3050) = 0 by omega) (show (0 ≤ (s27 3054) ∧ (s27 3054) ≤ 8) ∧ (0 ≤ (s27 3052) ∧ (s27 3052) ≤ 255) by omega) (show (s27 3049) ≤ (s27 3014) by omega)) ?_
          rintro _ _ ⟨s57, r58, rfl, rfl, hS57, f59, b60, k61, k62, k63, k64, k65⟩
          have hc66 : mv s57 := mv_fr f59 (by decide) hc33
          show tt Zi d 172 (45, [some (.inr (.inl 30)), some (.inl x), some (.inl y), some (.inl run), some (.inl n_), some (.inl mo), some (.inl (s27 3053)), some (.inl (mi_shl 1 r54)), o_8], [.inl r58], n, D, s57, p, c0) _
          replace k61 : (s57 3050) = 0 → rdBit A ((s27 3049), (s27 3052), (s27 3054)) = some (r58, (s57 3049), (s57 3052), (s57 3054)) := k61
          replace k62 : (s57 3050) ≠ 0 → rdBit A ((s27 3049), (s27 3052), (s27 3054)) = none := k62
          replace k63 : (s57 3050) ≠ 0 → r58 = 0 := k63
          replace k64 : (s57 3050) = 0 → (0 ≤ (s57 3054) ∧ (s57 3054) ≤ 8) ∧ (0 ≤ (s57 3052) ∧ (s57 3052) ≤ 255) := k64
          replace k65 : (s57 3049) ≤ (s27 3014) := k65
          have b67 : 0 ≤ (s57 3050) ∧ (s57 3050) ≤ 8 := hS57 3050
          have b68 : 0 ≤ (s57 3049) ∧ (s57 3049) ≤ 32769 := hS57 3049
          have b69 : 0 ≤ (s57 3052) ∧ (s57 3052) ≤ 255 := hS57 3052
          have b70 : 0 ≤ (s57 3054) ∧ (s57 3054) ≤ 8 := hS57 3054
          have e71 : s57 3039 = (s27 3039) := (f59 3039 (by decide))
          have b72 : 0 ≤ (s57 3039) ∧ (s57 3039) ≤ 8192 := hS57 3039
          have e73 : s57 3017 = (s27 3017) := (f59 3017 (by decide))
          have b74 : 0 ≤ (s57 3017) ∧ (s57 3017) ≤ 65535 := hS57 3017
          have e75 : s57 3037 = (s27 3037) := (f59 3037 (by decide))
          have b76 : 0 ≤ (s57 3037) ∧ (s57 3037) ≤ 64 := hS57 3037
          have e77 : s57 3035 = (s27 3035) := (f59 3035 (by decide))
          have b78 : 0 ≤ (s57 3035) ∧ (s57 3035) ≤ 31 := hS57 3035
          have e79 : s57 3014 = (s27 3014) := (f59 3014 (by decide))
          have b80 : 0 ≤ (s57 3014) ∧ (s57 3014) ≤ 32768 := hS57 3014
          have e81 : s57 3036 = (s27 3036) := (f59 3036 (by decide))
          have b82 : 0 ≤ (s57 3036) ∧ (s57 3036) ≤ 1 := hS57 3036
          have e83 : s57 3025 = (s27 3025) := (f59 3025 (by decide))
          have b84 : 0 ≤ (s57 3025) ∧ (s57 3025) ≤ 31 := hS57 3025
          have hx85 : tpl A (s57 3014) (c0 34) := by rw [f59 3014 (by decide)]; exact hx52
          have hx86 : zq Z (s57 3017) (s57 3018) (s57 3019) (s57 3020) (s57 3021) (s57 3022) (s57 3023) (s57 3024) (s57 3025) (s57 3026) := by rw [f59 3017 (by decide), f59 3018 (by decide), f59 3019 (by decide), f59 3020 (by decide), f59 3021 (by decide), f59 3022 (by decide), f59 3023 (by decide), f59 3024 (by decide), f59 3025 (by decide), f59 3026 (by decide)]; exact hx53
          by_cases hf2 : s57 3050 = 0
          · skip
            have hbt : rdBit A (s0 3049, s0 3052, s0 3054) = some (r58, s57 3049, s57 3052, s57 3054) := by have h := k61 hf2; rw [rdBit_rr qr0 (by omega)] at h; exact h
            have qb3 := k64 hf2
            clear k61 k62 k63 k64
            refine tt_k 1 (S' := (46, [some (.inr (.inl 30)), some (.inl x), some (.inl y), some (.inl run), some (.inl n_), some (.inl mo), some (.inl (s27 3053)), some (.inl (mi_shl 1 r54)), o_8], [.inl 1, .inl r58], n, D, s57, p, c0)) rfl ?_
            refine tb_ne (x := r58) (y := 1) rfl rfl (by omega) (fun h87 => ?_) (fun h87 => ?_)
            · show tt Zi d 172 (141, [some (.inr (.inl 30)), some (.inl x), some (.inl y), some (.inl run), some (.inl n_), some (.inl mo), some (.inl (s27 3053)), some (.inl (mi_shl 1 r54)), o_8], [], n, D, s57, p, c0) _
              refine tt_k 2 (S' := (145, [some (.inr (.inl 30)), some (.inl x), some (.inl y), some (.inl run), some (.inl n_), some (.inl mo), some (.inl (s27 3053)), some (.inl (mi_shl 1 r54)), o_8], [.inl (s57 3050)], n, D, s57, p, c0)) rfl ?_
              refine tz_ne (x := (s57 3050)) rfl rfl (by omega) (fun h88 => ?_) (fun h88 => ?_)
              · exfalso; omega
              · show tt Zi d 172 (148, [some (.inr (.inl 30)), some (.inl x), some (.inl y), some (.inl run), some (.inl n_), some (.inl mo), some (.inl (s27 3053)), some (.inl (mi_shl 1 r54)), o_8], [], n, D, s57, p, c0) _
                refine tt_k 2 (S' := (150, [some (.inr (.inl 30)), some (.inl x), some (.inl y), some (.inl run), some (.inl n_), some (.inl mo), some (.inl (s27 3053)), some (.inl (mi_shl 1 r54)), o_8], [.inr (.inl 30), .inr (.inl 30)], n, D, s57, p, c0)) rfl ?_
                refine tt_cl (by omega) rfl (k_piecesJ (Zi := Zi) (D := D) (s := s57) (p := p) (c := c0) (by omega) hS57 hC0 (show 0 ≤ (s57 3035) ∧ (s57 3035) ≤ 22 by omega)) ?_
                rintro _ _ ⟨r89, rfl, rfl, b90, k91⟩
                show tt Zi d 172 (153, [some (.inr (.inl 30)), some (.inl x), some (.inl y), some (.inl run), some (.inl n_), some (.inl mo), some (.inl (s27 3053)), some (.inl (mi_shl 1 r54)), o_8], [.inl r89, .inr (.inl 30)], n, D, s57, p, c0) _
                replace k91 : r89 = jj ((s57 3035)) := k91
                have hpK : r89 = jj (s0 3035) := by rw [k91]; exact congrArg jj (by omega)
                refine tt_cl (by omega) rfl (y_bits (Zi := Zi) (D := D) (s := s57) (p := p) (c := c0) (by omega) hS57 hC0 A r89 (by omega) hx85 (show (s57 3050) = 0 by omega) (show (0 ≤ (s57 3054) ∧ (s57 3054) ≤ 8) ∧ (0 ≤ (s57 3052) ∧ (s57 3052) ≤ 255) by omega) (show (s57 3049) ≤ (s57 3014) by omega)) ?_
                rintro _ _ ⟨s92, r93, rfl, rfl, hS92, f94, b95, k96, k97, k98, k99, k100⟩
                have hc101 : mv s92 := mv_fr f94 (by decide) hc66
                show tt Zi d 172 (156, [some (.inr (.inl 30)), some (.inl x), some (.inl y), some (.inl run), some (.inl n_), some (.inl mo), some (.inl (s27 3053)), some (.inl (mi_shl 1 r54)), o_8], [.inl r93], n, D, s92, p, c0) _
                replace k96 : (s92 3050) = 0 → rdBs A (r89 : Int).toNat 0 ((s57 3049), (s57 3052), (s57 3054)) = some (r93, (s92 3049), (s92 3052), (s92 3054)) := k96
                replace k97 : (s92 3050) ≠ 0 → rdBs A (r89 : Int).toNat 0 ((s57 3049), (s57 3052), (s57 3054)) = none := k97
                replace k98 : r93 < 2 ^ (r89 : Int).toNat := k98
                replace k99 : (s92 3050) = 0 → (0 ≤ (s92 3054) ∧ (s92 3054) ≤ 8) ∧ (0 ≤ (s92 3052) ∧ (s92 3052) ≤ 255) := k99
                replace k100 : (s92 3049) ≤ (s57 3014) := k100
                have b102 : 0 ≤ (s92 3050) ∧ (s92 3050) ≤ 8 := hS92 3050
                have b103 : 0 ≤ (s92 3049) ∧ (s92 3049) ≤ 32769 := hS92 3049
                have b104 : 0 ≤ (s92 3052) ∧ (s92 3052) ≤ 255 := hS92 3052
                have b105 : 0 ≤ (s92 3054) ∧ (s92 3054) ≤ 8 := hS92 3054
                have e106 : s92 3039 = (s57 3039) := (f94 3039 (by decide))
                have b107 : 0 ≤ (s92 3039) ∧ (s92 3039) ≤ 8192 := hS92 3039
                have e108 : s92 3017 = (s57 3017) := (f94 3017 (by decide))
                have b109 : 0 ≤ (s92 3017) ∧ (s92 3017) ≤ 65535 := hS92 3017
                have e110 : s92 3037 = (s57 3037) := (f94 3037 (by decide))
                have b111 : 0 ≤ (s92 3037) ∧ (s92 3037) ≤ 64 := hS92 3037
                have e112 : s92 3035 = (s57 3035) := (f94 3035 (by decide))
                have b113 : 0 ≤ (s92 3035) ∧ (s92 3035) ≤ 31 := hS92 3035
                have e114 : s92 3014 = (s57 3014) := (f94 3014 (by decide))
                have b115 : 0 ≤ (s92 3014) ∧ (s92 3014) ≤ 32768 := hS92 3014
                have e116 : s92 3036 = (s57 3036) := (f94 3036 (by decide))
                have b117 : 0 ≤ (s92 3036) ∧ (s92 3036) ≤ 1 := hS92 3036
                have e118 : s92 3025 = (s57 3025) := (f94 3025 (by decide))
                have b119 : 0 ≤ (s92 3025) ∧ (s92 3025) ≤ 31 := hS92 3025
                have hx120 : tpl A (s92 3014) (c0 34) := by rw [f94 3014 (by decide)]; exact hx85
                have hx121 : zq Z (s92 3017) (s92 3018) (s92 3019) (s92 3020) (s92 3021) (s92 3022) (s92 3023) (s92 3024) (s92 3025) (s92 3026) := by rw [f94 3017 (by decide), f94 3018 (by decide), f94 3019 (by decide), f94 3020 (by decide), f94 3021 (by decide), f94 3022 (by decide), f94 3023 (by decide), f94 3024 (by decide), f94 3025 (by decide), f94 3026 (by decide)]; exact hx86
                have hbb := mi_pw (a := (r89).toNat) (b := 7) (by omega)
                by_cases hf3 : s92 3050 = 0
                · skip
                  have hbs : rdBs A (jj (s0 3035)).toNat 0 (s57 3049, s57 3052, s57 3054) = some (r93, s92 3049, s92 3052, s92 3054) := by have h := k96 hf3; rw [hpK] at h; exact h
                  have qs3 := k99 hf3
                  clear k96 k97 k99
                  refine tt_k 3 (S' := (162, [some (.inr (.inl 30)), some (.inl x), some (.inl y), some (.inl run), some (.inl n_), some (.inl mo), some (.inl (s27 3053)), some (.inl (mi_shl 1 r54)), some (.inl r93)], [.inl (s92 3050)], n, D, s92, p, c0)) rfl ?_
                  refine tz_ne (x := (s92 3050)) rfl rfl (by omega) (fun h122 => ?_) (fun h122 => ?_)
                  · exfalso; omega
                  · show tt Zi d 172 (165, [some (.inr (.inl 30)), some (.inl x), some (.inl y), some (.inl run), some (.inl n_), some (.inl mo), some (.inl (s27 3053)), some (.inl (mi_shl 1 r54)), some (.inl r93)], [], n, D, s92, p, c0) _
                    refine tt_k 7 (S' := (176, [some (.inr (.inl 30)), some (.inl x), some (.inl y), some (.inl run), some (.inl n_), some (.inl mo), some (.inl (s27 3053)), some (.inl (mi_shl 1 r54)), some (.inl r93)], [.inl ((((s92 3037) - x) - n_)), .inl r93], n, D, s92, p, c0)) rfl ?_
                    refine tb_lt (x := r93) (y := (((s92 3037) - x) - n_)) rfl rfl (by omega) (fun h123 => ?_) (fun h123 => ?_)
                    · show tt Zi d 172 (187, [some (.inr (.inl 30)), some (.inl x), some (.inl y), some (.inl run), some (.inl n_), some (.inl mo), some (.inl (s27 3053)), some (.inl (mi_shl 1 r54)), some (.inl r93)], [], n, D, s92, p, c0) _
                      refine tt_k 2 (S' := (191, [some (.inr (.inl 30)), some (.inl x), some (.inl y), some (.inl run), some (.inl n_), some (.inl mo), some (.inl (s27 3053)), some (.inl (mi_shl 1 r54)), some (.inl r93)], [.inl (s92 3050)], n, D, s92, p, c0)) rfl ?_
                      refine tz_ne (x := (s92 3050)) rfl rfl (by omega) (fun h124 => ?_) (fun h124 => ?_)
                      · exfalso; omega
                      · show tt Zi d 172 (194, [some (.inr (.inl 30)), some (.inl x), some (.inl y), some (.inl run), some (.inl n_), some (.inl mo), some (.inl (s27 3053)), some (.inl (mi_shl 1 r54)), some (.inl r93)], [], n, D, s92, p, c0) _
                        refine tt_k 7 (S' := (203, [some (.inr (.inl 30)), some (.inl x), some (.inl y), some (.inl run), some (.inl n_), some (.inl mo), some (.inl (s27 3053)), some (.inl (mi_shl 1 r54)), some (.inl r93)], [.inl run, .inl r93, .inl y, .inl (x + n_), .inr (.inl 30)], n, D, s92, p, c0)) rfl ?_
                        refine tt_cl (by omega) rfl (k_fill (Zi := Zi) (D := D) (s := s92) (p := p) (c := c0) (by omega) hS92 hC0 (x + n_) y r93 run (by omega) (by omega) (by omega) (by omega) (show (x + n_) + r93 ≤ 64 by omega)) ?_
                        rintro _ _ ⟨c125, rfl, rfl, hC125, g126, k127, k128⟩
                        show tt Zi d 172 (206, [some (.inr (.inl 30)), some (.inl x), some (.inl y), some (.inl run), some (.inl n_), some (.inl mo), some (.inl (s27 3053)), some (.inl (mi_shl 1 r54)), some (.inl r93)], [], n, D, s92, p, c125) _
                        replace k127 : ∀ i : Nat, (i : Int) < (s92 3039) + 64 * y + (x + n_) ∨ (s92 3039) + 64 * y + (x + n_) + r93 ≤ i → (c125 44) i = (c0 44) i := k127
                        replace k128 : ∀ i : Nat, (s92 3039) + 64 * y + (x + n_) ≤ i → (i : Int) < (s92 3039) + 64 * y + (x + n_) + r93 → (c125 44) i = run := k128
                        have hx129 : tpl A (s92 3014) (c125 34) := by rw [g126 34 (by decide)]; exact hx120
                        have hx130 : mrl X.2.1 (c125 36) (c125 37) (c125 38) (c125 39) := by rw [g126 36 (by decide), g126 37 (by decide), g126 38 (by decide), g126 39 (by decide)]; exact hmr
                        have aW : s92 3037 = s 3037 := by omega
                        have aB : s92 3039 = s 3039 := by omega
                        have hfl : c125 44 = fil (c0 44) (s 3039 + 64 * y + (x + n_)).toNat r93 run := by rw [← aB]; exact fil_of (by omega) k127 k128
                        clear k127 k128
                        have htr1 := tr_fl (n := r93) (v := run) htr (by omega) (by omega) (by omega) (by omega) (by omega) (by omega)
                        rw [← hfl, fil_fil (by omega) (by omega) (by omega) (by omega), show x + n_ + r93 = x + (n_ + r93) by omega] at htr1
                        refine tt_k 10 (S' := (220, [some (.inr (.inl 30)), some (.inl x), some (.inl y), some (.inl run), some (.inl (n_ + r93)), some (.inl mo), some (.inl (s27 3053)), some (.inl (mi_shl 1 r54)), some (.inl r93)], [.inl run, .inl y, .inl (x + (n_ + r93)), .inr (.inl 30)], n, D, s92, p, c125)) rfl ?_
                        have hrr : RR = some (n_ + r93, s0 3035, s92 3049, s92 3052, s92 3054) := by rw [uI_0 hu (by omega) hbt (by omega), hbs, bd_s, if_neg (by show ¬ s 3037 - x ≤ n_ + r93; omega)]
                        have hxn : x + (n_ + r93) < s 3037 := by omega
                        have htb := tb_tr htr1 (tb_fil (n := n_ + r93) (v := run) hq7.2.1 (by omega) (by omega) (by omega) (by omega) (by omega) (by omega))
                        have hbf : nB (fil X.2.2.2 (64 * y + x).toNat (n_ + r93) run) (x + (n_ + r93)) y = nB X.2.2.2 (x + (n_ + r93)) y := nB_fil (by omega) (by omega)
                        have hpl0 : pl s92 (64 * y + x + (n_ + r93)) c125 := pl_mono (pl_tr (by omega) hx130 hq7.1) (by omega)
                        have hB37 : 0 ≤ c125 37 365 ∧ 0 ≤ c125 37 366 := by rw [(hx130 365 (by decide)).2.1, (hx130 366 (by decide)).2.1]; exact hq7.2.2.2
                        have vW : s92 3037 = s 3037 := by omega
                        have vB : s92 3039 = s 3039 := by omega
                        have hpo : s92 3035 = s0 3035 := by omega
                        have hbo := vB
                        have b131 : -2147483648 ≤ (s92 3018) ∧ (s92 3018) ≤ 2147483647 := hS92 3018
                        have b132 : -2147483648 ≤ (s92 3019) ∧ (s92 3019) ≤ 2147483647 := hS92 3019
                        have b133 : -2147483648 ≤ (s92 3020) ∧ (s92 3020) ≤ 2147483647 := hS92 3020
                        have b134 : -2147483648 ≤ (s92 3021) ∧ (s92 3021) ≤ 2147483647 := hS92 3021
                        have b135 : 0 ≤ (s92 3022) ∧ (s92 3022) ≤ 65535 := hS92 3022
                        have b136 : -2147483648 ≤ (s92 3023) ∧ (s92 3023) ≤ 2147483647 := hS92 3023
                        have b137 : -2147483648 ≤ (s92 3024) ∧ (s92 3024) ≤ 2147483647 := hS92 3024
                        have b138 : 0 ≤ (s92 3026) ∧ (s92 3026) ≤ 96 := hS92 3026
                        refine tt_cl (by omega) rfl (v_stop (Zi := Zi) (D := D) (s := s92) (p := p) (c := c125) (by omega) hS92 hC125 (64 * y + x + (n_ + r93)) Z X.2.1 A (fil X.2.2.2 (64 * y + x).toNat (n_ + r93) run) (x + (n_ + r93)) y run (by omega) (by omega) (by omega) hc101 (show (s92 3036) = 0 ∧ (s92 3050) = 0 ∧ (x + (n_ + r93)) < (s92 3037) by omega) (show run ≤ (s92 3017) by omega) hpl0 (by omega) hx129 (show (s92 3049) ≤ (s92 3014) by omega) (show (0 ≤ (s92 3054) ∧ (s92 3054) ≤ 8) ∧ (0 ≤ (s92 3052) ∧ (s92 3052) ≤ 255) by omega) (show 0 ≤ (s92 3035) ∧ (s92 3035) ≤ 22 by omega) hx121 (show (s92 3050) = 0 by omega) hx130 (show 0 ≤ (s92 3049) by omega) (by rw [vW, vB, show s92 3017 = Z 3017 by omega]; exact htb) (by rw [vW, vB]; exact htr1) hB37) ?_
                        rintro _ _ ⟨s139, c140, rfl, rfl, hS139, hC140, f141, g142, k143, k144, k145, k146⟩
                        have hc147 : mv s139 := mv_fr f141 (by decide) hc101
                        show tt Zi d 172 (223, [some (.inr (.inl 30)), some (.inl x), some (.inl y), some (.inl run), some (.inl (n_ + r93)), some (.inl mo), some (.inl (s27 3053)), some (.inl (mi_shl 1 r54)), some (.inl r93)], [], n, D, s139, p, c140) _
                        replace k143 : (s139 3050) = 0 → ∃ q, (rdNum A (kS X.2.1 (sS Z run (nB (fil X.2.2.2 (64 * y + x).toNat (n_ + r93) run) (x + (n_ + r93)) y))) (Z 3026 - 1 - jj ((s92 3035)) - Z 3025 - 1) (Z 3025) ((s92 3049), (s92 3052), (s92 3054))) = some (q, (s139 3049), (s139 3052), (s139 3054)) ∧ (-(Z 3024 / 2) ≤ (eT q (sS Z run (nB (fil X.2.2.2 (64 * y + x).toNat (n_ + r93) run) (x + (n_ + r93)) y)) (oS X.2.1 (sS Z run (nB (fil X.2.2.2 (64 * y + x).toNat (n_ + r93) run) (x + (n_ + r93)) y)))) ∧ (eT q (sS Z run (nB (fil X.2.2.2 (64 * y + x).toNat (n_ + r93) run) (x + (n_ + r93)) y)) (oS X.2.1 (sS Z run (nB (fil X.2.2.2 (64 * y + x).toNat (n_ + r93) run) (x + (n_ + r93)) y)))) ≤ (Z 3024 - 1) / 2) ∧ mrl (mStp Z X.2.1 (365 + (sS Z run (nB (fil X.2.2.2 (64 * y + x).toNat (n_ + r93) run) (x + (n_ + r93)) y))).toNat (eT q (sS Z run (nB (fil X.2.2.2 (64 * y + x).toNat (n_ + r93) run) (x + (n_ + r93)) y)) (oS X.2.1 (sS Z run (nB (fil X.2.2.2 (64 * y + x).toNat (n_ + r93) run) (x + (n_ + r93)) y)))) ((q + 1 - (sS Z run (nB (fil X.2.2.2 (64 * y + x).toNat (n_ + r93) run) (x + (n_ + r93)) y))) / 2)) ((c140 36)) ((c140 37)) ((c140 38)) ((c140 39)) ∧ (c140 44) = ua ((c125 44)) ((s92 3039) + 64 * y + (x + (n_ + r93))).toNat (rR Z (gS Z run (nB (fil X.2.2.2 (64 * y + x).toNat (n_ + r93) run) (x + (n_ + r93)) y)) (tS Z run (nB (fil X.2.2.2 (64 * y + x).toNat (n_ + r93) run) (x + (n_ + r93)) y)) (eT q (sS Z run (nB (fil X.2.2.2 (64 * y + x).toNat (n_ + r93) run) (x + (n_ + r93)) y)) (oS X.2.1 (sS Z run (nB (fil X.2.2.2 (64 * y + x).toNat (n_ + r93) run) (x + (n_ + r93)) y))))) ∧ (s139 3035) = (if 0 < (s92 3035) then (s92 3035) - 1 else 0) := k143
                        replace k144 : (s139 3050) ≠ 0 → rqN Z (fun q => (eT q (sS Z run (nB (fil X.2.2.2 (64 * y + x).toNat (n_ + r93) run) (x + (n_ + r93)) y)) (oS X.2.1 (sS Z run (nB (fil X.2.2.2 (64 * y + x).toNat (n_ + r93) run) (x + (n_ + r93)) y))))) (rdNum A (kS X.2.1 (sS Z run (nB (fil X.2.2.2 (64 * y + x).toNat (n_ + r93) run) (x + (n_ + r93)) y))) (Z 3026 - 1 - jj ((s92 3035)) - Z 3025 - 1) (Z 3025) ((s92 3049), (s92 3052), (s92 3054))) := k144
                        replace k145 : (s139 3050) = 0 → (0 ≤ (s139 3054) ∧ (s139 3054) ≤ 8) ∧ (0 ≤ (s139 3052) ∧ (s139 3052) ≤ 255) := k145
                        replace k146 : (s139 3050) = 0 → (s139 3049) ≤ (s92 3014) := k146
                        have b148 : 0 ≤ (s139 3050) ∧ (s139 3050) ≤ 8 := hS139 3050
                        have b149 : 0 ≤ (s139 3049) ∧ (s139 3049) ≤ 32769 := hS139 3049
                        have b150 : 0 ≤ (s139 3052) ∧ (s139 3052) ≤ 255 := hS139 3052
                        have b151 : 0 ≤ (s139 3054) ∧ (s139 3054) ≤ 8 := hS139 3054
                        have b152 : 0 ≤ (s139 3035) ∧ (s139 3035) ≤ 31 := hS139 3035
                        have e153 : s139 3039 = (s92 3039) := (f141 3039 (by decide))
                        have b154 : 0 ≤ (s139 3039) ∧ (s139 3039) ≤ 8192 := hS139 3039
                        have e155 : s139 3017 = (s92 3017) := (f141 3017 (by decide))
                        have b156 : 0 ≤ (s139 3017) ∧ (s139 3017) ≤ 65535 := hS139 3017
                        have e157 : s139 3037 = (s92 3037) := (f141 3037 (by decide))
                        have b158 : 0 ≤ (s139 3037) ∧ (s139 3037) ≤ 64 := hS139 3037
                        have e159 : s139 3014 = (s92 3014) := (f141 3014 (by decide))
                        have b160 : 0 ≤ (s139 3014) ∧ (s139 3014) ≤ 32768 := hS139 3014
                        have e161 : s139 3036 = (s92 3036) := (f141 3036 (by decide))
                        have b162 : 0 ≤ (s139 3036) ∧ (s139 3036) ≤ 1 := hS139 3036
                        have e163 : s139 3025 = (s92 3025) := (f141 3025 (by decide))
                        have b164 : 0 ≤ (s139 3025) ∧ (s139 3025) ≤ 31 := hS139 3025
                        have hx165 : tpl A (s139 3014) (c140 34) := by rw [f141 3014 (by decide), g142 34 (by decide)]; exact hx129
                        have hx166 : zq Z (s139 3017) (s139 3018) (s139 3019) (s139 3020) (s139 3021) (s139 3022) (s139 3023) (s139 3024) (s139 3025) (s139 3026) := by rw [f141 3017 (by decide), f141 3018 (by decide), f141 3019 (by decide), f141 3020 (by decide), f141 3021 (by decide), f141 3022 (by decide), f141 3023 (by decide), f141 3024 (by decide), f141 3025 (by decide), f141 3026 (by decide)]; exact hx121
                        by_cases hf4 : s139 3050 = 0
                        · skip
                          obtain ⟨q9, hq91, hq92, hq93, hq94, hq95⟩ := k143 hf4
                          have qt2 := k145 hf4
                          have qt3 := k146 hf4
                          clear k143 k144 k145 k146
                          rw [hpo, hbf] at hq91
                          rw [hbf] at hq92
                          rw [hbf] at hq93
                          rw [hbf, hbo] at hq94
                          rw [hpo] at hq95
                          have hrs := rStp_s (a := run) (b := nB X.2.2.2 (x + (n_ + r93)) y) (j := (64 * y + (x + (n_ + r93))).toNat) (X := ((s92 3049, s92 3052, s92 3054), X.2.1, s0 3035, fil X.2.2.2 (64 * y + x).toNat (n_ + r93) run)) hq91 hq92
                          have hre := hq8
                          rw [hrr, rnB_s hxn hrs] at hre
                          have htr2 := tr_st (v := rR Z (gS Z run (nB X.2.2.2 (x + (n_ + r93)) y)) (tS Z run (nB X.2.2.2 (x + (n_ + r93)) y)) (eT q9 (sS Z run (nB X.2.2.2 (x + (n_ + r93)) y)) (oS X.2.1 (sS Z run (nB X.2.2.2 (x + (n_ + r93)) y))))) htr1 (by omega) (by omega) (by omega) (by omega)
                          refine tt_k 4 (S' := (11, [some (.inr (.inl 30)), some (.inl x), some (.inl y), some (.inl run), some (.inl ((n_ + r93) + 1)), some (.inl 0), some (.inl (s27 3053)), some (.inl (mi_shl 1 r54)), some (.inl r93)], [], n, D, s139, p, c140)) rfl ?_
                          exact ih ((n_ + r93) + 1) 0 (some (.inl (s27 3053))) (some (.inl (mi_shl 1 r54))) (some (.inl r93)) s139 c140 (by omega) (by omega) hS139 (fr_tr (fr_tr (fr_tr (fr_tr hF0 f28 (by decide)) f59 (by decide)) f94 (by decide)) f141 (by decide)) hC140 (frc_tr (frc_tr hG0 g126 (by decide)) g142 (by decide)) (fun _ h => absurd h (by decide)) (fun _ _ => ⟨_, hre, rfl, hq93, hq95, by rw [hq94, show x + (n_ + r93 + 1) = x + (n_ + r93) + 1 by omega]; exact htr2⟩) (fun h => absurd hf4 h) (show (s139 3050) = 0 → (0 ≤ (s139 3054) ∧ (s139 3054) ≤ 8) ∧ (0 ≤ (s139 3052) ∧ (s139 3052) ≤ 255) by omega) (show (s139 3050) = 0 → (s139 3049) ≤ s 3014 by omega) (show (s139 3050) = 0 → 0 ≤ (s139 3035) ∧ (s139 3035) ≤ 22 by omega) (show x + ((n_ + r93) + 1) ≤ s 3037 by omega) (show 0 = 1 → x + ((n_ + r93) + 1) < s 3037 by omega) (fun _ => by rw [hq94, hfl]; exact ofr_ua (ofr_fil j8_ (by omega)) (by omega)) (show (if 0 = 1 ∧ (s139 3050) = 0 then s 3037 - x - ((n_ + r93) + 1) + 1 else 0).toNat < m by omega)
                        · skip
                          have hrq := k144 hf4
                          clear k143 k144 k145 k146
                          rw [hpo, hbf] at hrq
                          have hrn := rStp_n (a := run) (b := nB X.2.2.2 (x + (n_ + r93)) y) (j := (64 * y + (x + (n_ + r93))).toNat) (X := ((s92 3049, s92 3052, s92 3054), X.2.1, s0 3035, fil X.2.2.2 (64 * y + x).toNat (n_ + r93) run)) hrq
                          have hno : RS = none := by rw [hq8, hrr]; exact rnB_x hxn hrn
                          refine tt_k 4 (S' := (11, [some (.inr (.inl 30)), some (.inl x), some (.inl y), some (.inl run), some (.inl ((n_ + r93) + 1)), some (.inl 0), some (.inl (s27 3053)), some (.inl (mi_shl 1 r54)), some (.inl r93)], [], n, D, s139, p, c140)) rfl ?_
                          have hbad : ¬ (s139 3050) = 0 := by omega
                          exact ih ((n_ + r93) + 1) 0 (some (.inl (s27 3053))) (some (.inl (mi_shl 1 r54))) (some (.inl r93)) s139 c140 (by omega) (by omega) hS139 (fr_tr (fr_tr (fr_tr (fr_tr hF0 f28 (by decide)) f59 (by decide)) f94 (by decide)) f141 (by decide)) hC140 (frc_tr (frc_tr hG0 g126 (by decide)) g142 (by decide)) (fun h => absurd h hbad) (fun h => absurd h hbad) (fun _ => hno) (fun h => absurd h hbad) (fun h => absurd h hbad) (fun h => absurd h hbad) (show x + ((n_ + r93) + 1) ≤ s 3037 by omega) (show 0 = 1 → x + ((n_ + r93) + 1) < s 3037 by omega) (fun h => absurd h hbad) (show (if 0 = 1 ∧ (s139 3050) = 0 then s 3037 - x - ((n_ + r93) + 1) + 1 else 0).toNat < m by omega)
                    · show tt Zi d 172 (179, [some (.inr (.inl 30)), some (.inl x), some (.inl y), some (.inl run), some (.inl n_), some (.inl mo), some (.inl (s27 3053)), some (.inl (mi_shl 1 r54)), some (.inl r93)], [], n, D, s92, p, c0) _
                      refine tt_k 3 (S' := (184, [some (.inr (.inl 30)), some (.inl x), some (.inl y), some (.inl run), some (.inl n_), some (.inl mo), some (.inl (s27 3053)), some (.inl (mi_shl 1 r54)), some (.inl r93)], [.inl (s27 3053), .inl 7, .inr (.inl 30)], n, D, s92, p, c0)) rfl ?_
                      have b167 : 0 ≤ (s27 3053) ∧ (s27 3053) ≤ 32768 := hS27 3053
                      refine tt_cl (by omega) rfl (k_fail (Zi := Zi) (D := D) (s := s92) (p := p) (c := c0) (by omega) hS92 hC0 7 (s27 3053) (by omega) (by omega)) ?_
                      rintro _ _ ⟨s168, rfl, rfl, hS168, f169, k170, k171⟩
                      have hc172 : mv s168 := mv_fr f169 (by decide) hc101
                      show tt Zi d 172 (187, [some (.inr (.inl 30)), some (.inl x), some (.inl y), some (.inl run), some (.inl n_), some (.inl mo), some (.inl (s27 3053)), some (.inl (mi_shl 1 r54)), some (.inl r93)], [], n, D, s168, p, c0) _
                      replace k170 : ((s92 3050) = 0 → (s168 3050) = 7 ∧ (s168 3051) = (s27 3053)) := k170
                      replace k171 : ((s92 3050) ≠ 0 → (s168 3050) = (s92 3050) ∧ (s168 3051) = (s92 3051)) := k171
                      have b173 : 0 ≤ (s168 3050) ∧ (s168 3050) ≤ 8 := hS168 3050
                      have b174 : -1 ≤ (s168 3051) ∧ (s168 3051) ≤ 32769 := hS168 3051
                      have b175 : -1 ≤ (s92 3051) ∧ (s92 3051) ≤ 32769 := hS92 3051
                      have e176 : s168 3039 = (s92 3039) := (f169 3039 (by decide))
                      have b177 : 0 ≤ (s168 3039) ∧ (s168 3039) ≤ 8192 := hS168 3039
                      have e178 : s168 3017 = (s92 3017) := (f169 3017 (by decide))
                      have b179 : 0 ≤ (s168 3017) ∧ (s168 3017) ≤ 65535 := hS168 3017
                      have e180 : s168 3037 = (s92 3037) := (f169 3037 (by decide))
                      have b181 : 0 ≤ (s168 3037) ∧ (s168 3037) ≤ 64 := hS168 3037
                      have e182 : s168 3035 = (s92 3035) := (f169 3035 (by decide))
                      have b183 : 0 ≤ (s168 3035) ∧ (s168 3035) ≤ 31 := hS168 3035
                      have e184 : s168 3049 = (s92 3049) := (f169 3049 (by decide))
                      have b185 : 0 ≤ (s168 3049) ∧ (s168 3049) ≤ 32769 := hS168 3049
                      have e186 : s168 3014 = (s92 3014) := (f169 3014 (by decide))
                      have b187 : 0 ≤ (s168 3014) ∧ (s168 3014) ≤ 32768 := hS168 3014
                      have e188 : s168 3036 = (s92 3036) := (f169 3036 (by decide))
                      have b189 : 0 ≤ (s168 3036) ∧ (s168 3036) ≤ 1 := hS168 3036
                      have e190 : s168 3025 = (s92 3025) := (f169 3025 (by decide))
                      have b191 : 0 ≤ (s168 3025) ∧ (s168 3025) ≤ 31 := hS168 3025
                      have e192 : s168 3052 = (s92 3052) := (f169 3052 (by decide))
                      have b193 : 0 ≤ (s168 3052) ∧ (s168 3052) ≤ 255 := hS168 3052
                      have e194 : s168 3054 = (s92 3054) := (f169 3054 (by decide))
                      have b195 : 0 ≤ (s168 3054) ∧ (s168 3054) ≤ 8 := hS168 3054
                      have hx196 : tpl A (s168 3014) (c0 34) := by rw [f169 3014 (by decide)]; exact hx120
                      have hx197 : zq Z (s168 3017) (s168 3018) (s168 3019) (s168 3020) (s168 3021) (s168 3022) (s168 3023) (s168 3024) (s168 3025) (s168 3026) := by rw [f169 3017 (by decide), f169 3018 (by decide), f169 3019 (by decide), f169 3020 (by decide), f169 3021 (by decide), f169 3022 (by decide), f169 3023 (by decide), f169 3024 (by decide), f169 3025 (by decide), f169 3026 (by decide)]; exact hx121
                      have hff : s168 3050 ≠ 0 := by have h := k170 (by omega); omega
                      clear k170 k171
                      have hno : RS = none := by rw [hq8, uI_0 hu (by omega) hbt (by omega), hbs, bd_s, if_pos (by show s 3037 - x ≤ n_ + r93; omega), rnB_n]
                      refine tt_k 2 (S' := (191, [some (.inr (.inl 30)), some (.inl x), some (.inl y), some (.inl run), some (.inl n_), some (.inl mo), some (.inl (s27 3053)), some (.inl (mi_shl 1 r54)), some (.inl r93)], [.inl (s168 3050)], n, D, s168, p, c0)) rfl ?_
                      refine tz_ne (x := (s168 3050)) rfl rfl (by omega) (fun h198 => ?_) (fun h198 => ?_)
                      · show tt Zi d 172 (226, [some (.inr (.inl 30)), some (.inl x), some (.inl y), some (.inl run), some (.inl n_), some (.inl mo), some (.inl (s27 3053)), some (.inl (mi_shl 1 r54)), some (.inl r93)], [], n, D, s168, p, c0) _
                        refine tt_k 3 (S' := (11, [some (.inr (.inl 30)), some (.inl x), some (.inl y), some (.inl run), some (.inl n_), some (.inl 0), some (.inl (s27 3053)), some (.inl (mi_shl 1 r54)), some (.inl r93)], [], n, D, s168, p, c0)) rfl ?_
                        have hbad : ¬ (s168 3050) = 0 := by omega
                        exact ih n_ 0 (some (.inl (s27 3053))) (some (.inl (mi_shl 1 r54))) (some (.inl r93)) s168 c0 (by omega) (by omega) hS168 (fr_tr (fr_tr (fr_tr (fr_tr hF0 f28 (by decide)) f59 (by decide)) f94 (by decide)) f169 (by decide)) hC0 hG0 (fun h => absurd h hbad) (fun h => absurd h hbad) (fun _ => hno) (fun h => absurd h hbad) (fun h => absurd h hbad) (fun h => absurd h hbad) (show x + n_ ≤ s 3037 by omega) (show 0 = 1 → x + n_ < s 3037 by omega) (fun h => absurd h hbad) (show (if 0 = 1 ∧ (s168 3050) = 0 then s 3037 - x - n_ + 1 else 0).toNat < m by omega)
                      · exfalso; omega
                · skip
                  have hno : RS = none := by rw [hq8, uI_0 hu (by omega) hbt (by omega), (show rdBs A (jj (s0 3035)).toNat 0 (s57 3049, s57 3052, s57 3054) = none by have h := k97 hf3; rw [hpK] at h; exact h), bd_n, rnB_n]
                  clear k96 k97 k99
                  refine tt_k 3 (S' := (162, [some (.inr (.inl 30)), some (.inl x), some (.inl y), some (.inl run), some (.inl n_), some (.inl mo), some (.inl (s27 3053)), some (.inl (mi_shl 1 r54)), some (.inl r93)], [.inl (s92 3050)], n, D, s92, p, c0)) rfl ?_
                  refine tz_ne (x := (s92 3050)) rfl rfl (by omega) (fun h199 => ?_) (fun h199 => ?_)
                  · show tt Zi d 172 (187, [some (.inr (.inl 30)), some (.inl x), some (.inl y), some (.inl run), some (.inl n_), some (.inl mo), some (.inl (s27 3053)), some (.inl (mi_shl 1 r54)), some (.inl r93)], [], n, D, s92, p, c0) _
                    refine tt_k 2 (S' := (191, [some (.inr (.inl 30)), some (.inl x), some (.inl y), some (.inl run), some (.inl n_), some (.inl mo), some (.inl (s27 3053)), some (.inl (mi_shl 1 r54)), some (.inl r93)], [.inl (s92 3050)], n, D, s92, p, c0)) rfl ?_
                    refine tz_ne (x := (s92 3050)) rfl rfl (by omega) (fun h200 => ?_) (fun h200 => ?_)
                    · show tt Zi d 172 (226, [some (.inr (.inl 30)), some (.inl x), some (.inl y), some (.inl run), some (.inl n_), some (.inl mo), some (.inl (s27 3053)), some (.inl (mi_shl 1 r54)), some (.inl r93)], [], n, D, s92, p, c0) _
                      refine tt_k 3 (S' := (11, [some (.inr (.inl 30)), some (.inl x), some (.inl y), some (.inl run), some (.inl n_), some (.inl 0), some (.inl (s27 3053)), some (.inl (mi_shl 1 r54)), some (.inl r93)], [], n, D, s92, p, c0)) rfl ?_
                      have hbad : ¬ (s92 3050) = 0 := by omega
                      exact ih n_ 0 (some (.inl (s27 3053))) (some (.inl (mi_shl 1 r54))) (some (.inl r93)) s92 c0 (by omega) (by omega) hS92 (fr_tr (fr_tr (fr_tr hF0 f28 (by decide)) f59 (by decide)) f94 (by decide)) hC0 hG0 (fun h => absurd h hbad) (fun h => absurd h hbad) (fun _ => hno) (fun h => absurd h hbad) (fun h => absurd h hbad) (fun h => absurd h hbad) (show x + n_ ≤ s 3037 by omega) (show 0 = 1 → x + n_ < s 3037 by omega) (fun h => absurd h hbad) (show (if 0 = 1 ∧ (s92 3050) = 0 then s 3037 - x - n_ + 1 else 0).toNat < m by omega)
                    · exfalso; omega
                  · exfalso; omega
            · show tt Zi d 172 (49, [some (.inr (.inl 30)), some (.inl x), some (.inl y), some (.inl run), some (.inl n_), some (.inl mo), some (.inl (s27 3053)), some (.inl (mi_shl 1 r54)), o_8], [], n, D, s57, p, c0) _
              refine tt_k 2 (S' := (53, [some (.inr (.inl 30)), some (.inl x), some (.inl y), some (.inl run), some (.inl n_), some (.inl mo), some (.inl (s27 3053)), some (.inl (mi_shl 1 r54)), o_8], [.inl (s57 3050)], n, D, s57, p, c0)) rfl ?_
              refine tz_ne (x := (s57 3050)) rfl rfl (by omega) (fun h201 => ?_) (fun h201 => ?_)
              · exfalso; omega
              · show tt Zi d 172 (56, [some (.inr (.inl 30)), some (.inl x), some (.inl y), some (.inl run), some (.inl n_), some (.inl mo), some (.inl (s27 3053)), some (.inl (mi_shl 1 r54)), o_8], [], n, D, s57, p, c0) _
                refine tt_k 7 (S' := (67, [some (.inr (.inl 30)), some (.inl x), some (.inl y), some (.inl run), some (.inl n_), some (.inl mo), some (.inl (s27 3053)), some (.inl (mi_shl 1 r54)), o_8], [.inl ((((s57 3037) - x) - n_)), .inl (mi_shl 1 r54)], n, D, s57, p, c0)) rfl ?_
                have e202 : 1 ≤ (mi_shl 1 r54) ∧ (mi_shl 1 r54) ≤ 128 := mi_shl1b 0 7 (by omega) (by omega) (by decide)
                refine tt_cl (by omega) rfl (k_less (Zi := Zi) (D := D) (s := s57) (p := p) (c := c0) (by omega) hS57 hC0 (mi_shl 1 r54) ((((s57 3037) - x) - n_)) (by omega) (by omega)) ?_
                rintro _ _ ⟨r203, rfl, rfl, b204, k205⟩
                show tt Zi d 172 (70, [some (.inr (.inl 30)), some (.inl x), some (.inl y), some (.inl run), some (.inl n_), some (.inl mo), some (.inl (s27 3053)), some (.inl (mi_shl 1 r54)), o_8], [.inl r203], n, D, s57, p, c0) _
                replace k205 : r203 = min (mi_shl 1 r54) ((((s57 3037) - x) - n_)) := k205
                subst k205
                show tt Zi d 172 (70, [some (.inr (.inl 30)), some (.inl x), some (.inl y), some (.inl run), some (.inl n_), some (.inl mo), some (.inl (s27 3053)), some (.inl (mi_shl 1 r54)), o_8], [.inl ((min (mi_shl 1 r54) ((((s57 3037) - x) - n_))))], n, D, s57, p, c0) _
                refine tt_k 8 (S' := (81, [some (.inr (.inl 30)), some (.inl x), some (.inl y), some (.inl run), some (.inl n_), some (.inl mo), some (.inl (s27 3053)), some (.inl (mi_shl 1 r54)), some (.inl ((min (mi_shl 1 r54) ((((s57 3037) - x) - n_)))))], [.inl run, .inl ((min (mi_shl 1 r54) ((((s57 3037) - x) - n_)))), .inl y, .inl (x + n_), .inr (.inl 30)], n, D, s57, p, c0)) rfl ?_
                refine tt_cl (by omega) rfl (k_fill (Zi := Zi) (D := D) (s := s57) (p := p) (c := c0) (by omega) hS57 hC0 (x + n_) y ((min (mi_shl 1 r54) ((((s57 3037) - x) - n_)))) run (by omega) (by omega) (by omega) (by omega) (show (x + n_) + ((min (mi_shl 1 r54) ((((s57 3037) - x) - n_)))) ≤ 64 by omega)) ?_
                rintro _ _ ⟨c206, rfl, rfl, hC206, g207, k208, k209⟩
                show tt Zi d 172 (84, [some (.inr (.inl 30)), some (.inl x), some (.inl y), some (.inl run), some (.inl n_), some (.inl mo), some (.inl (s27 3053)), some (.inl (mi_shl 1 r54)), some (.inl ((min (mi_shl 1 r54) ((((s57 3037) - x) - n_)))))], [], n, D, s57, p, c206) _
                replace k208 : ∀ i : Nat, (i : Int) < (s57 3039) + 64 * y + (x + n_) ∨ (s57 3039) + 64 * y + (x + n_) + ((min (mi_shl 1 r54) ((((s57 3037) - x) - n_)))) ≤ i → (c206 44) i = (c0 44) i := k208
                replace k209 : ∀ i : Nat, (s57 3039) + 64 * y + (x + n_) ≤ i → (i : Int) < (s57 3039) + 64 * y + (x + n_) + ((min (mi_shl 1 r54) ((((s57 3037) - x) - n_)))) → (c206 44) i = run := k209
                have hx210 : tpl A (s57 3014) (c206 34) := by rw [g207 34 (by decide)]; exact hx85
                have hx211 : mrl X.2.1 (c206 36) (c206 37) (c206 38) (c206 39) := by rw [g207 36 (by decide), g207 37 (by decide), g207 38 (by decide), g207 39 (by decide)]; exact hmr
                have aW : s57 3037 = s 3037 := by omega
                have aB : s57 3039 = s 3039 := by omega
                have hfl : c206 44 = fil (c0 44) (s 3039 + 64 * y + (x + n_)).toNat ((min (mi_shl 1 r54) ((((s57 3037) - x) - n_)))) run := by rw [← aB]; exact fil_of (by omega) k208 k209
                clear k208 k209
                have htr1 := tr_fl (n := (min (mi_shl 1 r54) ((((s57 3037) - x) - n_)))) (v := run) htr (by omega) (by omega) (by omega) (by omega) (by omega) (by omega)
                rw [← hfl, fil_fil (by omega) (by omega) (by omega) (by omega), show x + n_ + (min (mi_shl 1 r54) ((((s57 3037) - x) - n_))) = x + (n_ + (min (mi_shl 1 r54) ((((s57 3037) - x) - n_)))) by omega] at htr1
                refine tt_k 7 (S' := (96, [some (.inr (.inl 30)), some (.inl x), some (.inl y), some (.inl run), some (.inl ((n_ + (min (mi_shl 1 r54) ((((s57 3037) - x) - n_)))))), some (.inl mo), some (.inl (s27 3053)), some (.inl (mi_shl 1 r54)), some (.inl ((min (mi_shl 1 r54) ((((s57 3037) - x) - n_)))))], [.inl (mi_shl 1 r54), .inl ((min (mi_shl 1 r54) ((((s57 3037) - x) - n_)))), .inr (.inl 30)], n, D, s57, p, c206)) rfl ?_
                have K213 : ∀ (j212 : Int) , (-2147483648 ≤ j212 ∧ j212 ≤ 2147483647) → (j212 = (if (min (mi_shl 1 r54) ((((s57 3037) - x) - n_))) = (mi_shl 1 r54) then min 31 ((s57 3035) + 1) else (s57 3035))) → (0 ≤ j212 ∧ j212 ≤ 22) → (True) → tt Zi d 172 (117, [some (.inr (.inl 30)), some (.inl x), some (.inl y), some (.inl run), some (.inl ((n_ + (min (mi_shl 1 r54) ((((s57 3037) - x) - n_)))))), some (.inl mo), some (.inl (s27 3053)), some (.inl (mi_shl 1 r54)), some (.inl ((min (mi_shl 1 r54) ((((s57 3037) - x) - n_)))))], [.inl j212, .inr (.inl 30)], n, D, s57, p, c206) Q := by
                  intro j212 b215 b216 b217 hj214
                  refine tt_k 6 (S' := (128, [some (.inr (.inl 30)), some (.inl x), some (.inl y), some (.inl run), some (.inl ((n_ + (min (mi_shl 1 r54) ((((s57 3037) - x) - n_)))))), some (.inl mo), some (.inl (s27 3053)), some (.inl (mi_shl 1 r54)), some (.inl ((min (mi_shl 1 r54) ((((s57 3037) - x) - n_)))))], [.inl (s57 3037), .inl ((x + (n_ + (min (mi_shl 1 r54) ((((s57 3037) - x) - n_))))))], n, D, (us s57 3035 j212), p, c206)) rfl ?_
                  refine tb_ge (x := (x + (n_ + (min (mi_shl 1 r54) ((((s57 3037) - x) - n_)))))) (y := (s57 3037)) rfl rfl (by omega) (fun h218 => ?_) (fun h218 => ?_)
                  · show tt Zi d 172 (135, [some (.inr (.inl 30)), some (.inl x), some (.inl y), some (.inl run), some (.inl ((n_ + (min (mi_shl 1 r54) ((((s57 3037) - x) - n_)))))), some (.inl mo), some (.inl (s27 3053)), some (.inl (mi_shl 1 r54)), some (.inl ((min (mi_shl 1 r54) ((((s57 3037) - x) - n_)))))], [], n, D, (us s57 3035 j212), p, c206) _
                    refine tt_k 4 (S' := (11, [some (.inr (.inl 30)), some (.inl x), some (.inl y), some (.inl run), some (.inl ((n_ + (min (mi_shl 1 r54) ((((s57 3037) - x) - n_)))))), some (.inl 0), some (.inl (s27 3053)), some (.inl (mi_shl 1 r54)), some (.inl ((min (mi_shl 1 r54) ((((s57 3037) - x) - n_)))))], [], n, D, (us s57 3035 j212), p, c206)) rfl ?_
                    have htk : (min (mi_shl 1 r54) ((((s57 3037) - x) - n_))) = min (2 ^ (jj (s0 3035)).toNat) (s 3037 - x - n_) := by rw [← hpc_]; omega
                    have hb1 : rdBit A (s0 3049, s0 3052, s0 3054) = some (1, s57 3049, s57 3052, s57 3054) := by rw [hbt, show r58 = 1 by omega]
                    have hu2 := uI_s hu (by omega) hb1
                    rw [← htk] at hu2
                    have hpv : (if 2 ^ (jj (s0 3035)).toNat ≤ s 3037 - x - n_ then min 31 (s0 3035 + 1) else s0 3035) = j212 := by have hj := b216; rw [← hpc_]; split at hj <;> (first | rw [if_pos (by omega)] | rw [if_neg (by omega)]) <;> omega
                    rw [hpv] at hu2
                    have hrr := uI_e hu2 (by omega) (by omega)
                    have hre := hq8
                    rw [hrr, rnB_e (show ¬ x + (n_ + (min (mi_shl 1 r54) ((((s57 3037) - x) - n_)))) < s 3037 by omega)] at hre
                    exact ih ((n_ + (min (mi_shl 1 r54) ((((s57 3037) - x) - n_))))) 0 (some (.inl (s27 3053))) (some (.inl (mi_shl 1 r54))) (some (.inl ((min (mi_shl 1 r54) ((((s57 3037) - x) - n_)))))) (us s57 3035 j212) c206 (by omega) (by omega) (bS_us hS57 (show 0 ≤ j212 ∧ j212 ≤ 31 by omega)) (fr_us (by decide) (fr_tr (fr_tr hF0 f28 (by decide)) f59 (by decide))) hC206 (frc_tr hG0 g207 (by decide)) (fun _ h => absurd h (by decide)) (fun _ _ => ⟨_, hre, rfl, hx211, rfl, htr1⟩) (fun h => absurd hf2 h) (show (s57 3050) = 0 → (0 ≤ (s57 3054) ∧ (s57 3054) ≤ 8) ∧ (0 ≤ (s57 3052) ∧ (s57 3052) ≤ 255) by omega) (show (s57 3050) = 0 → (s57 3049) ≤ s 3014 by omega) (show (s57 3050) = 0 → 0 ≤ j212 ∧ j212 ≤ 22 by omega) (show x + ((n_ + (min (mi_shl 1 r54) ((((s57 3037) - x) - n_))))) ≤ s 3037 by omega) (show 0 = 1 → x + ((n_ + (min (mi_shl 1 r54) ((((s57 3037) - x) - n_))))) < s 3037 by omega) (fun _ => by rw [hfl]; exact ofr_fil j8_ (by omega)) (show (if 0 = 1 ∧ (s57 3050) = 0 then s 3037 - x - ((n_ + (min (mi_shl 1 r54) ((((s57 3037) - x) - n_))))) + 1 else 0).toNat < m by omega)
                  · show tt Zi d 172 (131, [some (.inr (.inl 30)), some (.inl x), some (.inl y), some (.inl run), some (.inl ((n_ + (min (mi_shl 1 r54) ((((s57 3037) - x) - n_)))))), some (.inl mo), some (.inl (s27 3053)), some (.inl (mi_shl 1 r54)), some (.inl ((min (mi_shl 1 r54) ((((s57 3037) - x) - n_)))))], [], n, D, (us s57 3035 j212), p, c206) _
                    refine tt_k 5 (S' := (11, [some (.inr (.inl 30)), some (.inl x), some (.inl y), some (.inl run), some (.inl ((n_ + (min (mi_shl 1 r54) ((((s57 3037) - x) - n_)))))), some (.inl 1), some (.inl (s27 3053)), some (.inl (mi_shl 1 r54)), some (.inl ((min (mi_shl 1 r54) ((((s57 3037) - x) - n_)))))], [], n, D, (us s57 3035 j212), p, c206)) rfl ?_
                    have htk : (min (mi_shl 1 r54) ((((s57 3037) - x) - n_))) = min (2 ^ (jj (s0 3035)).toNat) (s 3037 - x - n_) := by rw [← hpc_]; omega
                    have hb1 : rdBit A (s0 3049, s0 3052, s0 3054) = some (1, s57 3049, s57 3052, s57 3054) := by rw [hbt, show r58 = 1 by omega]
                    have hu2 := uI_s hu (by omega) hb1
                    rw [← htk] at hu2
                    have hpv : (if 2 ^ (jj (s0 3035)).toNat ≤ s 3037 - x - n_ then min 31 (s0 3035 + 1) else s0 3035) = j212 := by have hj := b216; rw [← hpc_]; split at hj <;> (first | rw [if_pos (by omega)] | rw [if_neg (by omega)]) <;> omega
                    rw [hpv] at hu2
                    exact ih ((n_ + (min (mi_shl 1 r54) ((((s57 3037) - x) - n_))))) 1 (some (.inl (s27 3053))) (some (.inl (mi_shl 1 r54))) (some (.inl ((min (mi_shl 1 r54) ((((s57 3037) - x) - n_)))))) (us s57 3035 j212) c206 (by omega) (by omega) (bS_us hS57 (show 0 ≤ j212 ∧ j212 ≤ 31 by omega)) (fr_us (by decide) (fr_tr (fr_tr hF0 f28 (by decide)) f59 (by decide))) hC206 (frc_tr hG0 g207 (by decide)) (fun _ _ => ⟨hu2, hx211, htr1⟩) (fun _ h => absurd rfl h) (fun h => absurd hf2 h) (show (s57 3050) = 0 → (0 ≤ (s57 3054) ∧ (s57 3054) ≤ 8) ∧ (0 ≤ (s57 3052) ∧ (s57 3052) ≤ 255) by omega) (show (s57 3050) = 0 → (s57 3049) ≤ s 3014 by omega) (show (s57 3050) = 0 → 0 ≤ j212 ∧ j212 ≤ 22 by omega) (show x + ((n_ + (min (mi_shl 1 r54) ((((s57 3037) - x) - n_))))) ≤ s 3037 by omega) (show 1 = 1 → x + ((n_ + (min (mi_shl 1 r54) ((((s57 3037) - x) - n_))))) < s 3037 by omega) (fun _ => by rw [hfl]; exact ofr_fil j8_ (by omega)) (show (if 1 = 1 ∧ (s57 3050) = 0 then s 3037 - x - ((n_ + (min (mi_shl 1 r54) ((((s57 3037) - x) - n_))))) + 1 else 0).toNat < m by omega)
                refine tb_ne (x := (min (mi_shl 1 r54) ((((s57 3037) - x) - n_)))) (y := (mi_shl 1 r54)) rfl rfl (by omega) (fun h219 => ?_) (fun h219 => ?_)
                · show tt Zi d 172 (113, [some (.inr (.inl 30)), some (.inl x), some (.inl y), some (.inl run), some (.inl ((n_ + (min (mi_shl 1 r54) ((((s57 3037) - x) - n_)))))), some (.inl mo), some (.inl (s27 3053)), some (.inl (mi_shl 1 r54)), some (.inl ((min (mi_shl 1 r54) ((((s57 3037) - x) - n_)))))], [.inr (.inl 30)], n, D, s57, p, c206) _
                  refine tt_k 2 (S' := (117, [some (.inr (.inl 30)), some (.inl x), some (.inl y), some (.inl run), some (.inl ((n_ + (min (mi_shl 1 r54) ((((s57 3037) - x) - n_)))))), some (.inl mo), some (.inl (s27 3053)), some (.inl (mi_shl 1 r54)), some (.inl ((min (mi_shl 1 r54) ((((s57 3037) - x) - n_)))))], [.inl (s57 3035), .inr (.inl 30)], n, D, s57, p, c206)) rfl ?_
                  exact K213 (s57 3035)  (by omega) (by first | (rw [if_pos (by omega)]; done) | (rw [if_pos (by omega)]; omega) | (rw [if_neg (by omega)]; done) | (rw [if_neg (by omega)]; omega)) (by omega) (trivial)
                · show tt Zi d 172 (99, [some (.inr (.inl 30)), some (.inl x), some (.inl y), some (.inl run), some (.inl ((n_ + (min (mi_shl 1 r54) ((((s57 3037) - x) - n_)))))), some (.inl mo), some (.inl (s27 3053)), some (.inl (mi_shl 1 r54)), some (.inl ((min (mi_shl 1 r54) ((((s57 3037) - x) - n_)))))], [.inr (.inl 30)], n, D, s57, p, c206) _
                  refine tt_k 5 (S' := (107, [some (.inr (.inl 30)), some (.inl x), some (.inl y), some (.inl run), some (.inl ((n_ + (min (mi_shl 1 r54) ((((s57 3037) - x) - n_)))))), some (.inl mo), some (.inl (s27 3053)), some (.inl (mi_shl 1 r54)), some (.inl ((min (mi_shl 1 r54) ((((s57 3037) - x) - n_)))))], [.inl ((s57 3035) + 1), .inl 31, .inr (.inl 30)], n, D, s57, p, c206)) rfl ?_
                  refine tt_cl (by omega) rfl (k_less (Zi := Zi) (D := D) (s := s57) (p := p) (c := c206) (by omega) hS57 hC206 31 ((s57 3035) + 1) (by omega) (by omega)) ?_
                  rintro _ _ ⟨r220, rfl, rfl, b221, k222⟩
                  show tt Zi d 172 (110, [some (.inr (.inl 30)), some (.inl x), some (.inl y), some (.inl run), some (.inl ((n_ + (min (mi_shl 1 r54) ((((s57 3037) - x) - n_)))))), some (.inl mo), some (.inl (s27 3053)), some (.inl (mi_shl 1 r54)), some (.inl ((min (mi_shl 1 r54) ((((s57 3037) - x) - n_)))))], [.inl r220, .inr (.inl 30)], n, D, s57, p, c206) _
                  replace k222 : r220 = min 31 ((s57 3035) + 1) := k222
                  subst k222
                  show tt Zi d 172 (110, [some (.inr (.inl 30)), some (.inl x), some (.inl y), some (.inl run), some (.inl ((n_ + (min (mi_shl 1 r54) ((((s57 3037) - x) - n_)))))), some (.inl mo), some (.inl (s27 3053)), some (.inl (mi_shl 1 r54)), some (.inl ((min (mi_shl 1 r54) ((((s57 3037) - x) - n_)))))], [.inl ((min 31 ((s57 3035) + 1))), .inr (.inl 30)], n, D, s57, p, c206) _
                  refine tt_k 1 (S' := (117, [some (.inr (.inl 30)), some (.inl x), some (.inl y), some (.inl run), some (.inl ((n_ + (min (mi_shl 1 r54) ((((s57 3037) - x) - n_)))))), some (.inl mo), some (.inl (s27 3053)), some (.inl (mi_shl 1 r54)), some (.inl ((min (mi_shl 1 r54) ((((s57 3037) - x) - n_)))))], [.inl ((min 31 ((s57 3035) + 1))), .inr (.inl 30)], n, D, s57, p, c206)) rfl ?_
                  exact K213 ((min 31 ((s57 3035) + 1)))  (by omega) (by first | (rw [if_pos (by omega)]; done) | (rw [if_pos (by omega)]; omega) | (rw [if_neg (by omega)]; done) | (rw [if_neg (by omega)]; omega)) (by omega) (trivial)
          · skip
            have hno : RS = none := by rw [hq8, uI_n hu (by omega) (by have h := k62 hf2; rw [rdBit_rr qr0 (by omega)] at h; exact h), rnB_n]
            have qb2 := k63 hf2
            clear k61 k62 k63 k64
            refine tt_k 1 (S' := (46, [some (.inr (.inl 30)), some (.inl x), some (.inl y), some (.inl run), some (.inl n_), some (.inl mo), some (.inl (s27 3053)), some (.inl (mi_shl 1 r54)), o_8], [.inl 1, .inl r58], n, D, s57, p, c0)) rfl ?_
            refine tb_ne (x := r58) (y := 1) rfl rfl (by omega) (fun h223 => ?_) (fun h223 => ?_)
            · show tt Zi d 172 (141, [some (.inr (.inl 30)), some (.inl x), some (.inl y), some (.inl run), some (.inl n_), some (.inl mo), some (.inl (s27 3053)), some (.inl (mi_shl 1 r54)), o_8], [], n, D, s57, p, c0) _
              refine tt_k 2 (S' := (145, [some (.inr (.inl 30)), some (.inl x), some (.inl y), some (.inl run), some (.inl n_), some (.inl mo), some (.inl (s27 3053)), some (.inl (mi_shl 1 r54)), o_8], [.inl (s57 3050)], n, D, s57, p, c0)) rfl ?_
              refine tz_ne (x := (s57 3050)) rfl rfl (by omega) (fun h224 => ?_) (fun h224 => ?_)
              · show tt Zi d 172 (229, [some (.inr (.inl 30)), some (.inl x), some (.inl y), some (.inl run), some (.inl n_), some (.inl mo), some (.inl (s27 3053)), some (.inl (mi_shl 1 r54)), o_8], [], n, D, s57, p, c0) _
                refine tt_k 1 (S' := (11, [some (.inr (.inl 30)), some (.inl x), some (.inl y), some (.inl run), some (.inl n_), some (.inl mo), some (.inl (s27 3053)), some (.inl (mi_shl 1 r54)), o_8], [], n, D, s57, p, c0)) rfl ?_
                have hbad : ¬ (s57 3050) = 0 := by omega
                exact ih n_ mo (some (.inl (s27 3053))) (some (.inl (mi_shl 1 r54))) (o_8) s57 c0 (by omega) (by omega) hS57 (fr_tr (fr_tr hF0 f28 (by decide)) f59 (by decide)) hC0 hG0 (fun h => absurd h hbad) (fun h => absurd h hbad) (fun _ => hno) (fun h => absurd h hbad) (fun h => absurd h hbad) (fun h => absurd h hbad) (show x + n_ ≤ s 3037 by omega) (show mo = 1 → x + n_ < s 3037 by omega) (fun h => absurd h hbad) (show (if mo = 1 ∧ (s57 3050) = 0 then s 3037 - x - n_ + 1 else 0).toNat < m by omega)
              · exfalso; omega
            · show tt Zi d 172 (49, [some (.inr (.inl 30)), some (.inl x), some (.inl y), some (.inl run), some (.inl n_), some (.inl mo), some (.inl (s27 3053)), some (.inl (mi_shl 1 r54)), o_8], [], n, D, s57, p, c0) _
              refine tt_k 2 (S' := (53, [some (.inr (.inl 30)), some (.inl x), some (.inl y), some (.inl run), some (.inl n_), some (.inl mo), some (.inl (s27 3053)), some (.inl (mi_shl 1 r54)), o_8], [.inl (s57 3050)], n, D, s57, p, c0)) rfl ?_
              refine tz_ne (x := (s57 3050)) rfl rfl (by omega) (fun h225 => ?_) (fun h225 => ?_)
              · show tt Zi d 172 (141, [some (.inr (.inl 30)), some (.inl x), some (.inl y), some (.inl run), some (.inl n_), some (.inl mo), some (.inl (s27 3053)), some (.inl (mi_shl 1 r54)), o_8], [], n, D, s57, p, c0) _
                refine tt_k 2 (S' := (145, [some (.inr (.inl 30)), some (.inl x), some (.inl y), some (.inl run), some (.inl n_), some (.inl mo), some (.inl (s27 3053)), some (.inl (mi_shl 1 r54)), o_8], [.inl (s57 3050)], n, D, s57, p, c0)) rfl ?_
                refine tz_ne (x := (s57 3050)) rfl rfl (by omega) (fun h226 => ?_) (fun h226 => ?_)
                · show tt Zi d 172 (229, [some (.inr (.inl 30)), some (.inl x), some (.inl y), some (.inl run), some (.inl n_), some (.inl mo), some (.inl (s27 3053)), some (.inl (mi_shl 1 r54)), o_8], [], n, D, s57, p, c0) _
                  refine tt_k 1 (S' := (11, [some (.inr (.inl 30)), some (.inl x), some (.inl y), some (.inl run), some (.inl n_), some (.inl mo), some (.inl (s27 3053)), some (.inl (mi_shl 1 r54)), o_8], [], n, D, s57, p, c0)) rfl ?_
                  have hbad : ¬ (s57 3050) = 0 := by omega
                  exact ih n_ mo (some (.inl (s27 3053))) (some (.inl (mi_shl 1 r54))) (o_8) s57 c0 (by omega) (by omega) hS57 (fr_tr (fr_tr hF0 f28 (by decide)) f59 (by decide)) hC0 hG0 (fun h => absurd h hbad) (fun h => absurd h hbad) (fun _ => hno) (fun h => absurd h hbad) (fun h => absurd h hbad) (fun h => absurd h hbad) (show x + n_ ≤ s 3037 by omega) (show mo = 1 → x + n_ < s 3037 by omega) (fun h => absurd h hbad) (show (if mo = 1 ∧ (s57 3050) = 0 then s 3037 - x - n_ + 1 else 0).toNat < m by omega)
                · exfalso; omega
              · exfalso; omega
        · skip
          have hno : RS = none := by rw [hq8, uI_n hu (by omega) (rdBit_rn (k30 hf1)), rnB_n]
          clear k29 k30 k31
          refine tt_k 5 (S' := (35, [some (.inr (.inl 30)), some (.inl x), some (.inl y), some (.inl run), some (.inl n_), some (.inl mo), some (.inl (s27 3053)), o_7, o_8], [.inr (.inl 30), .inl 1], n, D, s27, p, c0)) rfl ?_
          refine tt_cl (by omega) rfl (k_piecesJ (Zi := Zi) (D := D) (s := s27) (p := p) (c := c0) (by omega) hS27 hC0 (show 0 ≤ (s27 3035) ∧ (s27 3035) ≤ 22 by omega)) ?_
          rintro _ _ ⟨r227, rfl, rfl, b228, k229⟩
          show tt Zi d 172 (38, [some (.inr (.inl 30)), some (.inl x), some (.inl y), some (.inl run), some (.inl n_), some (.inl mo), some (.inl (s27 3053)), o_7, o_8], [.inl r227, .inl 1], n, D, s27, p, c0) _
          replace k229 : r227 = jj ((s27 3035)) := k229
          have hpP : (s27 3035) = s0 3035 := by omega
          have hpc_ : mi_shl 1 r227 = 2 ^ (jj (s0 3035)).toNat := by rw [mi_shl1i (by omega) (by omega), k229, hpP]
          have hj6 : mi_shl 1 r227 ≤ 64 → s0 3035 ≤ 21 := fun h => by have h2 := jj_le6 (p := s0 3035) (by omega) (by omega); omega
          refine tt_k 3 (S' := (42, [some (.inr (.inl 30)), some (.inl x), some (.inl y), some (.inl run), some (.inl n_), some (.inl mo), some (.inl (s27 3053)), some (.inl (mi_shl 1 r227)), o_8], [.inr (.inl 30)], n, D, s27, p, c0)) rfl ?_
          refine tt_cl (by omega) rfl (k_bit (Zi := Zi) (D := D) (s := s27) (p := p) (c := c0) (by omega) hS27 hC0 ) ?_
          rintro _ _ ⟨s230, r231, rfl, rfl, hS230, f232, b233, k234, k235, k236⟩
          have hc237 : mv s230 := mv_fr f232 (by decide) hc33
          show tt Zi d 172 (45, [some (.inr (.inl 30)), some (.inl x), some (.inl y), some (.inl run), some (.inl n_), some (.inl mo), some (.inl (s27 3053)), some (.inl (mi_shl 1 r227)), o_8], [.inl r231], n, D, s230, p, c0) _
          replace k234 : (s27 3049) ≤ (s230 3049) := k234
          replace k235 : (s27 3050) ≠ 0 → (s230 3050) ≠ 0 := k235
          replace k236 : (s27 3049) ≤ 32768 → (s230 3049) ≤ 32768 := k236
          have b238 : 0 ≤ (s230 3049) ∧ (s230 3049) ≤ 32769 := hS230 3049
          have b239 : 0 ≤ (s230 3050) ∧ (s230 3050) ≤ 8 := hS230 3050
          have e240 : s230 3039 = (s27 3039) := (f232 3039 (by decide))
          have b241 : 0 ≤ (s230 3039) ∧ (s230 3039) ≤ 8192 := hS230 3039
          have e242 : s230 3017 = (s27 3017) := (f232 3017 (by decide))
          have b243 : 0 ≤ (s230 3017) ∧ (s230 3017) ≤ 65535 := hS230 3017
          have e244 : s230 3037 = (s27 3037) := (f232 3037 (by decide))
          have b245 : 0 ≤ (s230 3037) ∧ (s230 3037) ≤ 64 := hS230 3037
          have e246 : s230 3035 = (s27 3035) := (f232 3035 (by decide))
          have b247 : 0 ≤ (s230 3035) ∧ (s230 3035) ≤ 31 := hS230 3035
          have e248 : s230 3014 = (s27 3014) := (f232 3014 (by decide))
          have b249 : 0 ≤ (s230 3014) ∧ (s230 3014) ≤ 32768 := hS230 3014
          have e250 : s230 3036 = (s27 3036) := (f232 3036 (by decide))
          have b251 : 0 ≤ (s230 3036) ∧ (s230 3036) ≤ 1 := hS230 3036
          have e252 : s230 3025 = (s27 3025) := (f232 3025 (by decide))
          have b253 : 0 ≤ (s230 3025) ∧ (s230 3025) ≤ 31 := hS230 3025
          have hx254 : tpl A (s230 3014) (c0 34) := by rw [f232 3014 (by decide)]; exact hx52
          have hx255 : zq Z (s230 3017) (s230 3018) (s230 3019) (s230 3020) (s230 3021) (s230 3022) (s230 3023) (s230 3024) (s230 3025) (s230 3026) := by rw [f232 3017 (by decide), f232 3018 (by decide), f232 3019 (by decide), f232 3020 (by decide), f232 3021 (by decide), f232 3022 (by decide), f232 3023 (by decide), f232 3024 (by decide), f232 3025 (by decide), f232 3026 (by decide)]; exact hx53
          have hfb : s230 3050 ≠ 0 := k235 hf1
          clear k235
          refine tt_k 1 (S' := (46, [some (.inr (.inl 30)), some (.inl x), some (.inl y), some (.inl run), some (.inl n_), some (.inl mo), some (.inl (s27 3053)), some (.inl (mi_shl 1 r227)), o_8], [.inl 1, .inl r231], n, D, s230, p, c0)) rfl ?_
          refine tb_ne (x := r231) (y := 1) rfl rfl (by omega) (fun h256 => ?_) (fun h256 => ?_)
          · show tt Zi d 172 (141, [some (.inr (.inl 30)), some (.inl x), some (.inl y), some (.inl run), some (.inl n_), some (.inl mo), some (.inl (s27 3053)), some (.inl (mi_shl 1 r227)), o_8], [], n, D, s230, p, c0) _
            refine tt_k 2 (S' := (145, [some (.inr (.inl 30)), some (.inl x), some (.inl y), some (.inl run), some (.inl n_), some (.inl mo), some (.inl (s27 3053)), some (.inl (mi_shl 1 r227)), o_8], [.inl (s230 3050)], n, D, s230, p, c0)) rfl ?_
            refine tz_ne (x := (s230 3050)) rfl rfl (by omega) (fun h257 => ?_) (fun h257 => ?_)
            · show tt Zi d 172 (229, [some (.inr (.inl 30)), some (.inl x), some (.inl y), some (.inl run), some (.inl n_), some (.inl mo), some (.inl (s27 3053)), some (.inl (mi_shl 1 r227)), o_8], [], n, D, s230, p, c0) _
              refine tt_k 1 (S' := (11, [some (.inr (.inl 30)), some (.inl x), some (.inl y), some (.inl run), some (.inl n_), some (.inl mo), some (.inl (s27 3053)), some (.inl (mi_shl 1 r227)), o_8], [], n, D, s230, p, c0)) rfl ?_
              have hbad : ¬ (s230 3050) = 0 := by omega
              exact ih n_ mo (some (.inl (s27 3053))) (some (.inl (mi_shl 1 r227))) (o_8) s230 c0 (by omega) (by omega) hS230 (fr_tr (fr_tr hF0 f28 (by decide)) f232 (by decide)) hC0 hG0 (fun h => absurd h hbad) (fun h => absurd h hbad) (fun _ => hno) (fun h => absurd h hbad) (fun h => absurd h hbad) (fun h => absurd h hbad) (show x + n_ ≤ s 3037 by omega) (show mo = 1 → x + n_ < s 3037 by omega) (fun h => absurd h hbad) (show (if mo = 1 ∧ (s230 3050) = 0 then s 3037 - x - n_ + 1 else 0).toNat < m by omega)
            · exfalso; omega
          · show tt Zi d 172 (49, [some (.inr (.inl 30)), some (.inl x), some (.inl y), some (.inl run), some (.inl n_), some (.inl mo), some (.inl (s27 3053)), some (.inl (mi_shl 1 r227)), o_8], [], n, D, s230, p, c0) _
            refine tt_k 2 (S' := (53, [some (.inr (.inl 30)), some (.inl x), some (.inl y), some (.inl run), some (.inl n_), some (.inl mo), some (.inl (s27 3053)), some (.inl (mi_shl 1 r227)), o_8], [.inl (s230 3050)], n, D, s230, p, c0)) rfl ?_
            refine tz_ne (x := (s230 3050)) rfl rfl (by omega) (fun h258 => ?_) (fun h258 => ?_)
            · show tt Zi d 172 (141, [some (.inr (.inl 30)), some (.inl x), some (.inl y), some (.inl run), some (.inl n_), some (.inl mo), some (.inl (s27 3053)), some (.inl (mi_shl 1 r227)), o_8], [], n, D, s230, p, c0) _
              refine tt_k 2 (S' := (145, [some (.inr (.inl 30)), some (.inl x), some (.inl y), some (.inl run), some (.inl n_), some (.inl mo), some (.inl (s27 3053)), some (.inl (mi_shl 1 r227)), o_8], [.inl (s230 3050)], n, D, s230, p, c0)) rfl ?_
              refine tz_ne (x := (s230 3050)) rfl rfl (by omega) (fun h259 => ?_) (fun h259 => ?_)
              · show tt Zi d 172 (229, [some (.inr (.inl 30)), some (.inl x), some (.inl y), some (.inl run), some (.inl n_), some (.inl mo), some (.inl (s27 3053)), some (.inl (mi_shl 1 r227)), o_8], [], n, D, s230, p, c0) _
                refine tt_k 1 (S' := (11, [some (.inr (.inl 30)), some (.inl x), some (.inl y), some (.inl run), some (.inl n_), some (.inl mo), some (.inl (s27 3053)), some (.inl (mi_shl 1 r227)), o_8], [], n, D, s230, p, c0)) rfl ?_
                have hbad : ¬ (s230 3050) = 0 := by omega
                exact ih n_ mo (some (.inl (s27 3053))) (some (.inl (mi_shl 1 r227))) (o_8) s230 c0 (by omega) (by omega) hS230 (fr_tr (fr_tr hF0 f28 (by decide)) f232 (by decide)) hC0 hG0 (fun h => absurd h hbad) (fun h => absurd h hbad) (fun _ => hno) (fun h => absurd h hbad) (fun h => absurd h hbad) (fun h => absurd h hbad) (show x + n_ ≤ s 3037 by omega) (show mo = 1 → x + n_ < s 3037 by omega) (fun h => absurd h hbad) (show (if mo = 1 ∧ (s230 3050) = 0 then s 3037 - x - n_ + 1 else 0).toNat < m by omega)
              · exfalso; omega
            · exfalso; omega
set_option maxRecDepth 100000 in
set_option maxHeartbeats 4000000 in
theorem v_readRun {Zi : Nat → Option (Nat × (Nat → Int))} {d n : Nat} {D : Nat → Nat × Nat} {s : Nat → Int} {p : Nat → Nat} {c : Nat → Nat → Int} (hd : 6 ≤ d) (hS : bS s) (hC : bC D c) (Z : Nat → Int) (A : TN) (X : XR) (x : Int) (y : Int) (b_x : 0 ≤ x ∧ x ≤ 63) (b_y : 0 ≤ y ∧ y ≤ 63) (hp0 : mv s) (hp1 : s 3036 = 0 ∧ s 3050 = 0 ∧ x < s 3037) (hp2 : s 3041 = nA X.2.2.2 x y) (hp3 : tpl A (s 3014) (c 34)) (hp4 : (0 ≤ s 3054 ∧ s 3054 ≤ 8) ∧ (0 ≤ s 3052 ∧ s 3052 ≤ 255)) (hp5 : s 3049 ≤ s 3014) (hp6 : zq Z (s 3017) (s 3018) (s 3019) (s 3020) (s 3021) (s 3022) (s 3023) (s 3024) (s 3025) (s 3026)) (hp7 : mv Z) (hp8 : vQ Z (s 3037) y x X) (hp9 : (s 3049, s 3052, s 3054) = X.1) (hp10 : mrl X.2.1 (c 36) (c 37) (c 38) (c 39)) (hp11 : s 3035 = X.2.2.1) (hp12 : trl X.2.2.2 (s 3039) (s 3037) x y (c 44)) (hp13 : gsT Z (s 3037) y x X.2.2.2 = 0) : tt Zi d 172 (0, [some (.inr (.inl 30)), some (.inl x), some (.inl y), none, none, none, none, none, none], [], n, D, s, p, c) (fun R H => ∃ (s' : Nat → Int) (c' : Nat → Nat → Int) (r : Int), R = .inl (some (.inl r)) ∧ H = (n, D, s', p, c') ∧ bS s' ∧ bC D c' ∧ fr s s' [3035, 3041, 3042, 3043, 3044, 3045, 3046, 3049, 3050, 3051, 3052, 3053, 3054] ∧ frc c c' [36, 37, 39, 44] ∧ (0 ≤ r ∧ r ≤ 64) ∧ (s' 3050 = 0 → stE (stR A Z (s 3037) y x X) r (s' 3049, s' 3052, s' 3054) (s' 3035) (c' 36) (c' 37) (c' 38) (c' 39) (s 3039) (s 3037) (x + r) y (c' 44)) ∧ (s' 3050 ≠ 0 → (stR A Z (s 3037) y x X) = none) ∧ (s' 3050 = 0 → (0 ≤ s' 3054 ∧ s' 3054 ≤ 8) ∧ (0 ≤ s' 3052 ∧ s' 3052 ≤ 255)) ∧ (s' 3050 = 0 → s' 3049 ≤ s 3014) ∧ (x + r ≤ s 3037) ∧ (s' 3050 = 0 → ofr (s 3039) (c 44) (c' 44))) := by
  refine tt_k 7 (S' := (11, [some (.inr (.inl 30)), some (.inl x), some (.inl y), some (.inl (s 3041)), some (.inl 0), some (.inl 1), none, none, none], [], n, D, s, p, c)) rfl ?_
  have mvx := mv_fx (s := Z) hp7
  have hz0_ : s 3017 = Z 3017 := hp6.1
  have hna := nA_bd hp8.2.1 (by omega) (by omega) (by omega)
  have hf0_ : fil X.2.2.2 (64 * y + x).toNat 0 (s 3041) = X.2.2.2 := fil_z
  have b1 : 0 ≤ (s 3041) ∧ (s 3041) ≤ 65535 := hS 3041
  have b2 : 0 ≤ (s 3036) ∧ (s 3036) ≤ 1 := hS 3036
  have b3 : 0 ≤ (s 3037) ∧ (s 3037) ≤ 64 := hS 3037
  have b4 : 0 ≤ (s 3017) ∧ (s 3017) ≤ 65535 := hS 3017
  have b5 : 0 ≤ (s 3039) ∧ (s 3039) ≤ 8192 := hS 3039
  have b6 : 0 ≤ (s 3014) ∧ (s 3014) ≤ 32768 := hS 3014
  have b7 : -2147483648 ≤ (s 3018) ∧ (s 3018) ≤ 2147483647 := hS 3018
  have b8 : -2147483648 ≤ (s 3019) ∧ (s 3019) ≤ 2147483647 := hS 3019
  have b9 : -2147483648 ≤ (s 3020) ∧ (s 3020) ≤ 2147483647 := hS 3020
  have b10 : -2147483648 ≤ (s 3021) ∧ (s 3021) ≤ 2147483647 := hS 3021
  have b11 : 0 ≤ (s 3022) ∧ (s 3022) ≤ 65535 := hS 3022
  have b12 : -2147483648 ≤ (s 3023) ∧ (s 3023) ≤ 2147483647 := hS 3023
  have b13 : -2147483648 ≤ (s 3024) ∧ (s 3024) ≤ 2147483647 := hS 3024
  have b14 : 0 ≤ (s 3025) ∧ (s 3025) ≤ 31 := hS 3025
  have b15 : 0 ≤ (s 3026) ∧ (s 3026) ≤ 96 := hS 3026
  refine v_readRun_L11 (Zi := Zi) (D := D) (s := s) (p := p) (c := c) hd hS hC Z A X (rRun A (s 3037 - x) 70 0 X.2.2.1 X.1) (stR A Z (s 3037) y x X) x y (s 3041) (by omega) (by omega) (by omega) hp0 (show (s 3036) = 0 ∧ x < (s 3037) ∧ (s 3037) ≤ 64 by omega) (show (s 3041) ≤ (s 3017) by omega) (show 0 ≤ (s 3039) ∧ (s 3039) ≤ 8192 by omega) (show 0 ≤ 0 by omega) hp3 hp6 hp7 hp8 (by rw [hp2]; unfold stR; rw [if_pos hp13]; rfl) hp2 ?_ _ 0 1 (none) (none) (none) s c (by omega) (by omega) hS fr_rf hC frc_rf (fun _ _ => ⟨⟨70, by omega, by rw [hp9, hp11]⟩, hp10, by rw [hf0_, Int.add_zero]; exact hp12⟩) (fun _ h => absurd rfl h) (fun h => absurd hp1.2.1 h) (fun _ => hp4) (show ((s 3050)) = 0 → ((s 3049)) ≤ (s 3014) by omega) (fun _ => by have h := hp8.2.2.1; rw [← hp11] at h; exact h) (show x + 0 ≤ (s 3037) by omega) (show 1 = 1 → x + 0 < (s 3037) by omega) (fun _ => ofr_rf) (Nat.lt_succ_self _)
  intro x16 x17 x18 x19 x20 s21 c22 b23 b24 hS21 f25 hC22 g26 i27 i28 i29 i30 i31 i32 i33 i34 i35 hx36
  show tt Zi d 172 (232, [some (.inr (.inl 30)), some (.inl x), some (.inl y), some (.inl (s 3041)), some (.inl x16), some (.inl x17), x18, x19, x20], [], n, D, s21, p, c22) _
  have hc37 : mv s21 := mv_fr f25 (by decide) hp0
  have e38 : s21 3039 = (s 3039) := (f25 3039 (by decide))
  have b39 : 0 ≤ (s21 3039) ∧ (s21 3039) ≤ 8192 := hS21 3039
  have e40 : s21 3017 = (s 3017) := (f25 3017 (by decide))
  have b41 : 0 ≤ (s21 3017) ∧ (s21 3017) ≤ 65535 := hS21 3017
  have e42 : s21 3037 = (s 3037) := (f25 3037 (by decide))
  have b43 : 0 ≤ (s21 3037) ∧ (s21 3037) ≤ 64 := hS21 3037
  have e44 : s21 3014 = (s 3014) := (f25 3014 (by decide))
  have b45 : 0 ≤ (s21 3014) ∧ (s21 3014) ≤ 32768 := hS21 3014
  have e46 : s21 3036 = (s 3036) := (f25 3036 (by decide))
  have b47 : 0 ≤ (s21 3036) ∧ (s21 3036) ≤ 1 := hS21 3036
  have e48 : s21 3025 = (s 3025) := (f25 3025 (by decide))
  have b49 : 0 ≤ (s21 3025) ∧ (s21 3025) ≤ 31 := hS21 3025
  have hx50 : tpl A (s21 3014) (c22 34) := by rw [f25 3014 (by decide), g26 34 (by decide)]; exact hp3
  have hx51 : zq Z (s21 3017) (s21 3018) (s21 3019) (s21 3020) (s21 3021) (s21 3022) (s21 3023) (s21 3024) (s21 3025) (s21 3026) := by rw [f25 3017 (by decide), f25 3018 (by decide), f25 3019 (by decide), f25 3020 (by decide), f25 3021 (by decide), f25 3022 (by decide), f25 3023 (by decide), f25 3024 (by decide), f25 3025 (by decide), f25 3026 (by decide)]; exact hp6
  refine tt_k 1 (S' := (234, [some (.inr (.inl 30)), some (.inl x), some (.inl y), some (.inl (s 3041)), some (.inl x16), some (.inl x17), x18, x19, x20], [.inl x16], n, D, s21, p, c22)) rfl ?_
  exact tt_rti rfl rfl ⟨s21, c22, x16, rfl, rfl, hS21, hC22, (fr_tr fr_rf f25 (by decide)), (frc_tr frc_rf g26 (by decide)), by omega, fun hf => i28 hf (by omega), fun hf => i29 hf, fun hf => i30 hf, i31, by show x + x16 ≤ s 3037; omega, fun hf => i35 hf⟩
