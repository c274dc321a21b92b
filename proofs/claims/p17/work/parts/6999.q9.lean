/-! the reference reads a row, and unpacks, exactly -/
def rrI (A : TN) (R : Option SR × MT) (a pl sc w h dp : Int) (fn ft f4 k0 k1 k2 k3 : Nat → Int) : Prop := ∃ (n : Nat) (S : SR), A.2 - a < n ∧ S.1 = a ∧ secs A n S = R ∧ rrS A pl sc w h dp fn ft f4 S ∧ mrl S.2.2.2.2.2.1 k0 k1 k2 k3
def rrE (A : TN) (R : Option SR × MT) (a pl sc w h dp : Int) (fn ft f4 k0 k1 k2 k3 : Nat → Int) : Prop := ∃ (N : SR → Option SR × MT) (S : SR), rrS A pl sc w h dp fn ft f4 S ∧ mrl S.2.2.2.2.2.1 k0 k1 k2 k3 ∧ (pl ≠ 0 ∧ sc = pl) ∧ secK A N 217 a S = R
def rrN (R : Option SR × MT) (k0 k1 k2 k3 : Nat → Int) : Prop := ∃ K : MT, R = (none, K) ∧ mrl K k0 k1 k2 k3
/-- a picture that was read, in the reference's words -/
def rrP (w h pl dp : Int) (f : Nat → Int) (S : SR) : Prop := S.2.1 = (w, h, pl, dp) ∧ ((1 ≤ w ∧ w ≤ 64) ∧ (1 ≤ h ∧ h ≤ 64) ∧ (pl = 1 ∨ pl = 3) ∧ (2 ≤ dp ∧ dp ≤ 16)) ∧ ∀ q : Int, 0 ≤ q → q < pl → trl (S.2.2.2.2.2.2 q) (4096 * q) w 0 h f
section RRX
variable {A : TN} {pl sc w h dp a m : Int} {fn ft f4 f : Nat → Int} {S : SR} {N : SR → Option SR × MT}
theorem rrS_0 {K : MT} {T : Int → Nat → Int} (h0 : pl = 0 ∧ sc = 0) (ht : ∀ i : Nat, i < 5 → ft i = 0) : rrS A pl sc w h dp fn ft f4 (a, (0, 0, 0, 0), 0, 0, (fun _ => 0), K, T) := ⟨ht, h0.1.symm, h0.2.symm, by omega, fun hp => absurd h0.1 hp⟩
theorem rr_nc (h0 : rrS A pl sc w h dp fn ft f4 S) (hc : ¬ ((m = 247 ∧ pl = 0) ∨ (m = 218 ∧ 0 < pl ∧ sc < pl) ∨ (m = 217 ∧ 0 < pl ∧ sc = pl) ∨ ((m ≠ 247 ∧ m ≠ 218 ∧ m ≠ 217) ∧ (m = 248 ∨ m = 254 ∨ (224 ≤ m ∧ m ≤ 239))))) : secK A N m a S = (none, S.2.2.2.2.2.1) := by
  obtain ⟨r1, r2, r3, r4, r5⟩ := h0
  by_cases m1 : m = 217
  · subst m1
    exact secK_x (by omega)
  · refine secK_n m1 ?_
    by_cases m2 : m = 247
    · subst m2
      exact sec_fn (fun q => by have := q.1; omega)
    · by_cases m3 : m = 218
      · subst m3
        exact sec_sn (fun q => by have := q.1; omega)
      · exact sec_x ⟨m2, by omega, m3⟩ (by omega)
theorem rrP_of (h0 : rrS A pl sc w h dp fn ft f4 S) (hp : pl ≠ 0 ∧ sc = pl) (hf : ∀ j : Nat, (j : Int) < 12288 → f j = f4 j) : rrP w h pl dp f S := by
  obtain ⟨r1, r2, r3, r4, r5⟩ := h0
  obtain ⟨q1, q2, q3, q4⟩ := r5 hp.1
  refine ⟨q1, q2, fun q h1 h2 xx yy a1 a2 a3 a4 => ?_⟩
  rw [hf _ (by omega)]
  exact q4 q h1 (by omega) xx yy a1 a2 a3 a4
end RRX
set_option maxRecDepth 100000 in
set_option maxHeartbeats 4000000 in
theorem v_readAll_L32 {Zi : Nat → Option (Nat × (Nat → Int))} {d n : Nat} {D : Nat → Nat × Nat} {s : Nat → Int} {p : Nat → Nat} {c : Nat → Nat → Int}  {Q : mi_Rs → mi_H → Prop} (hd : 10 ≤ d) (hS : bS s) (hC : bC D c) (A : TN) (R : Option SR × MT) (hq0 : tpl A (s 3014) (c 34))
  (hK : ∀ (v : Int) (mo : Int) (s0 : Nat → Int) (c0 : Nat → Nat → Int) (b_v : 0 ≤ v ∧ v ≤ 255) (b_mo : 0 ≤ mo ∧ mo ≤ 1) (hS0 : bS s0) (hF0 : fr s s0 [3017, 3018, 3019, 3020, 3021, 3022, 3023, 3024, 3025, 3026, 3035, 3036, 3037, 3038, 3039, 3041, 3042, 3043, 3044, 3045, 3046, 3049, 3050, 3051, 3052, 3053, 3054, 3057, 3058, 3059, 3060, 3061]) (hC0 : bC D c0) (hG0 : frc c c0 [36, 37, 38, 39, 40, 41, 42, 43, 44, 45, 46]) (i0 : s0 3050 = 0 → mo = 1 → rrI A R (s0 3049) (s0 3059) (s0 3061) (s0 3057) (s0 3058) (s0 3060) (c0 45) (c0 46) (c0 44) (c0 40) (c0 41) (c0 42) (c0 43)) (i1 : s0 3050 = 0 → mo = 0 → rrE A R (s0 3049) (s0 3059) (s0 3061) (s0 3057) (s0 3058) (s0 3060) (c0 45) (c0 46) (c0 44) (c0 40) (c0 41) (c0 42) (c0 43)) (i2 : s0 3050 ≠ 0 → rrN R (c0 40) (c0 41) (c0 42) (c0 43)) (i3 : s0 3050 = 0 → s0 3049 ≤ 32769), (mo = 0 ∨ s0 3050 ≠ 0) → tt Zi d 186 (106, [some (.inr (.inl 30)), some (.inl v), some (.inl mo)], [], n, D, s0, p, c0) Q) :
  ∀ (m : Nat) (v : Int) (mo : Int) (s0 : Nat → Int) (c0 : Nat → Nat → Int) (b_v : 0 ≤ v ∧ v ≤ 255) (b_mo : 0 ≤ mo ∧ mo ≤ 1) (hS0 : bS s0) (hF0 : fr s s0 [3017, 3018, 3019, 3020, 3021, 3022, 3023, 3024, 3025, 3026, 3035, 3036, 3037, 3038, 3039, 3041, 3042, 3043, 3044, 3045, 3046, 3049, 3050, 3051, 3052, 3053, 3054, 3057, 3058, 3059, 3060, 3061]) (hC0 : bC D c0) (hG0 : frc c c0 [36, 37, 38, 39, 40, 41, 42, 43, 44, 45, 46]) (i0 : s0 3050 = 0 → mo = 1 → rrI A R (s0 3049) (s0 3059) (s0 3061) (s0 3057) (s0 3058) (s0 3060) (c0 45) (c0 46) (c0 44) (c0 40) (c0 41) (c0 42) (c0 43)) (i1 : s0 3050 = 0 → mo = 0 → rrE A R (s0 3049) (s0 3059) (s0 3061) (s0 3057) (s0 3058) (s0 3060) (c0 45) (c0 46) (c0 44) (c0 40) (c0 41) (c0 42) (c0 43)) (i2 : s0 3050 ≠ 0 → rrN R (c0 40) (c0 41) (c0 42) (c0 43)) (i3 : s0 3050 = 0 → s0 3049 ≤ 32769), (if mo = 1 ∧ s0 3050 = 0 then 32770 - s0 3049 else 0).toNat < m → tt Zi d 186 (32, [some (.inr (.inl 30)), some (.inl v), some (.inl mo)], [], n, D, s0, p, c0) Q := by
  intro m
  induction m with
  | zero => intro v mo s0 c0 b_v b_mo hS0 hF0 hC0 hG0 i0 i1 i2 i3 hm; exact absurd hm (by omega)
  | succ m ih =>
    intro v mo s0 c0 b_v b_mo hS0 hF0 hC0 hG0 i0 i1 i2 i3 hm
    have e1 : s0 3014 = s 3014 := hF0 3014 (by decide)
    have b2 : 0 ≤ (s0 3014) ∧ (s0 3014) ≤ 32768 := hS0 3014
    have b3 : 0 ≤ (s 3014) ∧ (s 3014) ≤ 32768 := hS 3014
    have htp : tpl A (s0 3014) (c0 34) := by rw [hF0 3014 (by decide), hG0 34 (by decide)]; exact hq0
    have hA := hq0.1
    have b4 : 0 ≤ (s0 3050) ∧ (s0 3050) ≤ 8 := hS0 3050
    have b5 : 0 ≤ (s0 3049) ∧ (s0 3049) ≤ 32769 := hS0 3049
    have b6 : 0 ≤ (s0 3059) ∧ (s0 3059) ≤ 3 := hS0 3059
    have b7 : 0 ≤ (s0 3061) ∧ (s0 3061) ≤ 3 := hS0 3061
    refine tt_k 1 (S' := (33, [some (.inr (.inl 30)), some (.inl v), some (.inl mo)], [.inl mo], n, D, s0, p, c0)) rfl ?_
    refine tz_eq (x := mo) rfl rfl (by omega) (fun h8 => ?_) (fun h8 => ?_)
    · show tt Zi d 186 (106, [some (.inr (.inl 30)), some (.inl v), some (.inl mo)], [], n, D, s0, p, c0) _
      exact hK v mo s0 c0 (by omega) (by omega) hS0 hF0 hC0 hG0 i0 i1 i2 i3 (by omega)
    · show tt Zi d 186 (36, [some (.inr (.inl 30)), some (.inl v), some (.inl mo)], [], n, D, s0, p, c0) _
      refine tt_k 2 (S' := (40, [some (.inr (.inl 30)), some (.inl v), some (.inl mo)], [.inl (s0 3050)], n, D, s0, p, c0)) rfl ?_
      refine tz_ne (x := (s0 3050)) rfl rfl (by omega) (fun h9 => ?_) (fun h9 => ?_)
      · show tt Zi d 186 (106, [some (.inr (.inl 30)), some (.inl v), some (.inl mo)], [], n, D, s0, p, c0) _
        exact hK v mo s0 c0 (by omega) (by omega) hS0 hF0 hC0 hG0 i0 i1 i2 i3 (by omega)
      · show tt Zi d 186 (43, [some (.inr (.inl 30)), some (.inl v), some (.inl mo)], [], n, D, s0, p, c0) _
        refine tt_k 1 (S' := (44, [some (.inr (.inl 30)), some (.inl v), some (.inl mo)], [.inr (.inl 30)], n, D, s0, p, c0)) rfl ?_
        refine tt_cl (by omega) rfl (y_nextMark (Zi := Zi) (D := D) (s := s0) (p := p) (c := c0) (by omega) hS0 hC0 A htp (show (s0 3050) = 0 by omega)) ?_
        rintro _ _ ⟨s10, r11, rfl, rfl, hS10, f12, b13, k14, k15, k16, k17⟩
        show tt Zi d 186 (47, [some (.inr (.inl 30)), some (.inl v), some (.inl mo)], [.inl r11], n, D, s10, p, c0) _
        replace k14 : (s10 3050) = 0 → (rdMk A ((s0 3049))) = some (r11, (s10 3049)) := k14
        replace k15 : (s10 3050) ≠ 0 → (rdMk A ((s0 3049))) = none := k15
        replace k16 : (s10 3050) = 0 → (s0 3049) + 2 ≤ (s10 3049) ∧ (s10 3049) ≤ (s0 3014) := k16
        replace k17 : (s0 3049) ≤ (s10 3049) := k17
        have b18 : 0 ≤ (s10 3050) ∧ (s10 3050) ≤ 8 := hS10 3050
        have b19 : 0 ≤ (s10 3049) ∧ (s10 3049) ≤ 32769 := hS10 3049
        have e20 : s10 3061 = (s0 3061) := (f12 3061 (by decide))
        have b21 : 0 ≤ (s10 3061) ∧ (s10 3061) ≤ 3 := hS10 3061
        have e22 : s10 3059 = (s0 3059) := (f12 3059 (by decide))
        have b23 : 0 ≤ (s10 3059) ∧ (s10 3059) ≤ 3 := hS10 3059
        have e24 : s10 3060 = (s0 3060) := (f12 3060 (by decide))
        have b25 : 0 ≤ (s10 3060) ∧ (s10 3060) ≤ 255 := hS10 3060
        have b26 : 0 ≤ (s0 3060) ∧ (s0 3060) ≤ 255 := hS0 3060
        have e27 : s10 3057 = (s0 3057) := (f12 3057 (by decide))
        have b28 : 0 ≤ (s10 3057) ∧ (s10 3057) ≤ 65535 := hS10 3057
        have b29 : 0 ≤ (s0 3057) ∧ (s0 3057) ≤ 65535 := hS0 3057
        have e30 : s10 3058 = (s0 3058) := (f12 3058 (by decide))
        have b31 : 0 ≤ (s10 3058) ∧ (s10 3058) ≤ 65535 := hS10 3058
        have b32 : 0 ≤ (s0 3058) ∧ (s0 3058) ≤ 65535 := hS0 3058
        have e33 : s10 3014 = (s0 3014) := (f12 3014 (by decide))
        have b34 : 0 ≤ (s10 3014) ∧ (s10 3014) ≤ 32768 := hS10 3014
        have hx35 : tpl A (s10 3014) (c0 34) := by rw [f12 3014 (by decide)]; exact htp
        by_cases hf1 : s10 3050 = 0
        · skip
          obtain ⟨n_, S, hfu, hSa, hsec, hrr, hmr⟩ := i0 (by omega) (by omega)
          have hb := k16 hf1
          obtain ⟨n9, rfl⟩ : ∃ n9, n_ = n9 + 1 := ⟨n_ - 1, by omega⟩
          rw [secs_m (n := n9) (S := S) (by rw [hSa]; exact k14 hf1)] at hsec
          have hrd := rrS_d hrr
          refine tt_k 3 (S' := (52, [some (.inr (.inl 30)), some (.inl r11), some (.inl mo)], [.inl (s10 3050)], n, D, s10, p, c0)) rfl ?_
          refine tz_ne (x := (s10 3050)) rfl rfl (by omega) (fun h36 => ?_) (fun h36 => ?_)
          · exfalso; omega
          · show tt Zi d 186 (55, [some (.inr (.inl 30)), some (.inl r11), some (.inl mo)], [], n, D, s10, p, c0) _
            refine tt_k 2 (S' := (57, [some (.inr (.inl 30)), some (.inl r11), some (.inl mo)], [.inl r11, .inr (.inl 30)], n, D, s10, p, c0)) rfl ?_
            refine tt_cl (by omega) rfl (v_comes (Zi := Zi) (D := D) (s := s10) (p := p) (c := c0) (by omega) hS10 hC0 r11 (by omega)) ?_
            rintro _ _ ⟨r37, rfl, rfl, b38, k39⟩
            show tt Zi d 186 (60, [some (.inr (.inl 30)), some (.inl r11), some (.inl mo)], [.inl r37], n, D, s10, p, c0) _
            replace k39 : r37 = 1 ↔ ((r11 = 247 ∧ (s10 3059) = 0) ∨ (r11 = 218 ∧ 0 < (s10 3059) ∧ (s10 3061) < (s10 3059)) ∨ (r11 = 217 ∧ 0 < (s10 3059) ∧ (s10 3061) = (s10 3059)) ∨ ((r11 ≠ 247 ∧ r11 ≠ 218 ∧ r11 ≠ 217) ∧ (r11 = 248 ∨ r11 = 254 ∨ (224 ≤ r11 ∧ r11 ≤ 239)))) := k39
            refine tz_ne (x := r37) rfl rfl (by omega) (fun h40 => ?_) (fun h40 => ?_)
            · show tt Zi d 186 (74, [some (.inr (.inl 30)), some (.inl r11), some (.inl mo)], [], n, D, s10, p, c0) _
              refine tt_k 2 (S' := (78, [some (.inr (.inl 30)), some (.inl r11), some (.inl mo)], [.inl 217, .inl r11], n, D, s10, p, c0)) rfl ?_
              refine tb_eq (x := r11) (y := 217) rfl rfl (by omega) (fun h41 => ?_) (fun h41 => ?_)
              · show tt Zi d 186 (85, [some (.inr (.inl 30)), some (.inl r11), some (.inl mo)], [], n, D, s10, p, c0) _
                refine tt_k 3 (S' := (88, [some (.inr (.inl 30)), some (.inl r11), some (.inl 0)], [.inl 0], n, D, s10, p, c0)) rfl ?_
                refine tz_eq (x := 0) rfl rfl (by omega) (fun h42 => ?_) (fun h42 => ?_)
                · show tt Zi d 186 (32, [some (.inr (.inl 30)), some (.inl r11), some (.inl 0)], [], n, D, s10, p, c0) _
                  exact ih r11 0 s10 c0 (by omega) (by omega) hS10 (fr_tr hF0 f12 (by decide)) hC0 hG0 (fun _ h => absurd h (by omega)) (fun _ _ => ⟨_, S, (by rw [show s10 3059 = s0 3059 by omega, show s10 3061 = s0 3061 by omega, show s10 3057 = s0 3057 by omega, show s10 3058 = s0 3058 by omega, show s10 3060 = s0 3060 by omega]; exact hrr), hmr, (by omega), (by have h := hsec; rw [show r11 = 217 by omega] at h; exact h)⟩) (fun h => absurd h (by omega)) (show (s10 3050) = 0 → (s10 3049) ≤ 32769 by omega) (show (if 0 = 1 ∧ (s10 3050) = 0 then 32770 - (s10 3049) else 0).toNat < m by omega)
                · exfalso; omega
              · show tt Zi d 186 (81, [some (.inr (.inl 30)), some (.inl r11), some (.inl mo)], [], n, D, s10, p, c0) _
                refine tt_k 4 (S' := (88, [some (.inr (.inl 30)), some (.inl r11), some (.inl 1)], [.inl 1], n, D, s10, p, c0)) rfl ?_
                refine tz_eq (x := 1) rfl rfl (by omega) (fun h43 => ?_) (fun h43 => ?_)
                · exfalso; omega
                · show tt Zi d 186 (91, [some (.inr (.inl 30)), some (.inl r11), some (.inl 1)], [], n, D, s10, p, c0) _
                  refine tt_k 2 (S' := (95, [some (.inr (.inl 30)), some (.inl r11), some (.inl 1)], [.inl (s10 3050)], n, D, s10, p, c0)) rfl ?_
                  refine tz_ne (x := (s10 3050)) rfl rfl (by omega) (fun h44 => ?_) (fun h44 => ?_)
                  · exfalso; omega
                  · show tt Zi d 186 (98, [some (.inr (.inl 30)), some (.inl r11), some (.inl 1)], [], n, D, s10, p, c0) _
                    refine tt_k 2 (S' := (100, [some (.inr (.inl 30)), some (.inl r11), some (.inl 1)], [.inl r11, .inr (.inl 30)], n, D, s10, p, c0)) rfl ?_
                    have hrr9 : rrS A (s10 3059) (s10 3061) (s10 3057) (s10 3058) (s10 3060) (c0 45) (c0 46) (c0 44) S := by rw [show s10 3059 = s0 3059 by omega, show s10 3061 = s0 3061 by omega, show s10 3057 = s0 3057 by omega, show s10 3058 = s0 3058 by omega, show s10 3060 = s0 3060 by omega]; exact hrr
                    refine tt_cl (by omega) rfl (v_section (Zi := Zi) (D := D) (s := s10) (p := p) (c := c0) (by omega) hS10 hC0 A S r11 (by omega) hx35 (show (s10 3050) = 0 by omega) hrr9 hmr (show r11 ≠ 217 ∧ ((r11 = 247 ∧ (s10 3059) = 0) ∨ (r11 = 218 ∧ 0 < (s10 3059) ∧ (s10 3061) < (s10 3059)) ∨ (r11 = 217 ∧ 0 < (s10 3059) ∧ (s10 3061) = (s10 3059)) ∨ ((r11 ≠ 247 ∧ r11 ≠ 218 ∧ r11 ≠ 217) ∧ (r11 = 248 ∨ r11 = 254 ∨ (224 ≤ r11 ∧ r11 ≤ 239)))) by omega)) ?_
                    rintro _ _ ⟨s45, c46, rfl, rfl, hS45, hC46, f47, g48, k49, k50, k51, k52⟩
                    show tt Zi d 186 (103, [some (.inr (.inl 30)), some (.inl r11), some (.inl 1)], [], n, D, s45, p, c46) _
                    replace k49 : (s45 3050) = 0 → ∃ S2, sec A r11 ((s10 3049)) S = some S2 ∧ (s45 3049) = S2.1 ∧ rrS A ((s45 3059)) ((s45 3061)) ((s45 3057)) ((s45 3058)) ((s45 3060)) ((c46 45)) ((c46 46)) ((c46 44)) S2 ∧ mrl S2.2.2.2.2.2.1 ((c46 40)) ((c46 41)) ((c46 42)) ((c46 43)) := k49
                    replace k50 : (s45 3050) ≠ 0 → seN A r11 ((s10 3049)) S := k50
                    replace k51 : (s45 3050) ≠ 0 → (c46 40) = (c0 40) ∧ (c46 41) = (c0 41) ∧ (c46 42) = (c0 42) ∧ (c46 43) = (c0 43) := k51
                    replace k52 : (s45 3050) = 0 → (s10 3049) ≤ (s45 3049) := k52
                    have b53 : 0 ≤ (s45 3050) ∧ (s45 3050) ≤ 8 := hS45 3050
                    have b54 : 0 ≤ (s45 3049) ∧ (s45 3049) ≤ 32769 := hS45 3049
                    have b55 : 0 ≤ (s45 3059) ∧ (s45 3059) ≤ 3 := hS45 3059
                    have b56 : 0 ≤ (s45 3061) ∧ (s45 3061) ≤ 3 := hS45 3061
                    have b57 : 0 ≤ (s45 3057) ∧ (s45 3057) ≤ 65535 := hS45 3057
                    have b58 : 0 ≤ (s45 3058) ∧ (s45 3058) ≤ 65535 := hS45 3058
                    have b59 : 0 ≤ (s45 3060) ∧ (s45 3060) ≤ 255 := hS45 3060
                    have e60 : s45 3014 = (s10 3014) := (f47 3014 (by decide))
                    have b61 : 0 ≤ (s45 3014) ∧ (s45 3014) ≤ 32768 := hS45 3014
                    have hx62 : tpl A (s45 3014) (c46 34) := by rw [f47 3014 (by decide), g48 34 (by decide)]; exact hx35
                    by_cases hf2 : s45 3050 = 0
                    · skip
                      obtain ⟨S2, s1_, s2_, s3_, s4_⟩ := k49 hf2
                      clear k49 k50
                      rw [secK_s (by omega) s1_] at hsec
                      refine tt_k 1 (S' := (32, [some (.inr (.inl 30)), some (.inl r11), some (.inl 1)], [], n, D, s45, p, c46)) rfl ?_
                      exact ih r11 1 s45 c46 (by omega) (by omega) hS45 (fr_tr (fr_tr hF0 f12 (by decide)) f47 (by decide)) hC46 (frc_tr hG0 g48 (by decide)) (fun _ _ => ⟨n9, S2, by omega, s2_.symm, hsec, s3_, s4_⟩) (fun _ h => absurd h (by omega)) (fun h => absurd h (by omega)) (show (s45 3050) = 0 → (s45 3049) ≤ 32769 by omega) (show (if 1 = 1 ∧ (s45 3050) = 0 then 32770 - (s45 3049) else 0).toNat < m by omega)
                    · skip
                      have hks := k51 hf2
                      have hse := k50 hf2
                      clear k49 k50
                      have hno : rrN R (c46 40) (c46 41) (c46 42) (c46 43) := ⟨_, (by rw [← hsec]; exact secK_z (by omega) hse), (by rw [hks.1, hks.2.1, hks.2.2.1, hks.2.2.2]; exact hmr)⟩
                      refine tt_k 1 (S' := (32, [some (.inr (.inl 30)), some (.inl r11), some (.inl 1)], [], n, D, s45, p, c46)) rfl ?_
                      exact ih r11 1 s45 c46 (by omega) (by omega) hS45 (fr_tr (fr_tr hF0 f12 (by decide)) f47 (by decide)) hC46 (frc_tr hG0 g48 (by decide)) (fun h => absurd h (by omega)) (fun h => absurd h (by omega)) (fun _ => hno) (fun h => absurd h (by omega)) (show (if 1 = 1 ∧ (s45 3050) = 0 then 32770 - (s45 3049) else 0).toNat < m by omega)
            · show tt Zi d 186 (63, [some (.inr (.inl 30)), some (.inl r11), some (.inl mo)], [], n, D, s10, p, c0) _
              refine tt_k 6 (S' := (71, [some (.inr (.inl 30)), some (.inl r11), some (.inl mo)], [.inl ((s10 3049) - 1), .inl 3, .inr (.inl 30)], n, D, s10, p, c0)) rfl ?_
              refine tt_cl (by omega) rfl (k_fail (Zi := Zi) (D := D) (s := s10) (p := p) (c := c0) (by omega) hS10 hC0 3 ((s10 3049) - 1) (by omega) (by omega)) ?_
              rintro _ _ ⟨s63, rfl, rfl, hS63, f64, k65, k66⟩
              show tt Zi d 186 (74, [some (.inr (.inl 30)), some (.inl r11), some (.inl mo)], [], n, D, s63, p, c0) _
              replace k65 : ((s10 3050) = 0 → (s63 3050) = 3 ∧ (s63 3051) = ((s10 3049) - 1)) := k65
              replace k66 : ((s10 3050) ≠ 0 → (s63 3050) = (s10 3050) ∧ (s63 3051) = (s10 3051)) := k66
              have b67 : 0 ≤ (s63 3050) ∧ (s63 3050) ≤ 8 := hS63 3050
              have b68 : -1 ≤ (s63 3051) ∧ (s63 3051) ≤ 32769 := hS63 3051
              have b69 : -1 ≤ (s10 3051) ∧ (s10 3051) ≤ 32769 := hS10 3051
              have e70 : s63 3049 = (s10 3049) := (f64 3049 (by decide))
              have b71 : 0 ≤ (s63 3049) ∧ (s63 3049) ≤ 32769 := hS63 3049
              have e72 : s63 3061 = (s10 3061) := (f64 3061 (by decide))
              have b73 : 0 ≤ (s63 3061) ∧ (s63 3061) ≤ 3 := hS63 3061
              have e74 : s63 3059 = (s10 3059) := (f64 3059 (by decide))
              have b75 : 0 ≤ (s63 3059) ∧ (s63 3059) ≤ 3 := hS63 3059
              have e76 : s63 3060 = (s10 3060) := (f64 3060 (by decide))
              have b77 : 0 ≤ (s63 3060) ∧ (s63 3060) ≤ 255 := hS63 3060
              have e78 : s63 3057 = (s10 3057) := (f64 3057 (by decide))
              have b79 : 0 ≤ (s63 3057) ∧ (s63 3057) ≤ 65535 := hS63 3057
              have e80 : s63 3058 = (s10 3058) := (f64 3058 (by decide))
              have b81 : 0 ≤ (s63 3058) ∧ (s63 3058) ≤ 65535 := hS63 3058
              have e82 : s63 3014 = (s10 3014) := (f64 3014 (by decide))
              have b83 : 0 ≤ (s63 3014) ∧ (s63 3014) ≤ 32768 := hS63 3014
              have hx84 : tpl A (s63 3014) (c0 34) := by rw [f64 3014 (by decide)]; exact hx35
              have hff : s63 3050 ≠ 0 := by have h := k65 (by omega); omega
              have hno : rrN R (c0 40) (c0 41) (c0 42) (c0 43) := ⟨_, (by rw [← hsec]; exact rr_nc hrr (by omega)), hmr⟩
              refine tt_k 2 (S' := (78, [some (.inr (.inl 30)), some (.inl r11), some (.inl mo)], [.inl 217, .inl r11], n, D, s63, p, c0)) rfl ?_
              refine tb_eq (x := r11) (y := 217) rfl rfl (by omega) (fun h85 => ?_) (fun h85 => ?_)
              · show tt Zi d 186 (85, [some (.inr (.inl 30)), some (.inl r11), some (.inl mo)], [], n, D, s63, p, c0) _
                refine tt_k 3 (S' := (88, [some (.inr (.inl 30)), some (.inl r11), some (.inl 0)], [.inl 0], n, D, s63, p, c0)) rfl ?_
                refine tz_eq (x := 0) rfl rfl (by omega) (fun h86 => ?_) (fun h86 => ?_)
                · show tt Zi d 186 (32, [some (.inr (.inl 30)), some (.inl r11), some (.inl 0)], [], n, D, s63, p, c0) _
                  exact ih r11 0 s63 c0 (by omega) (by omega) hS63 (fr_tr (fr_tr hF0 f12 (by decide)) f64 (by decide)) hC0 hG0 (fun h => absurd h (by omega)) (fun h => absurd h (by omega)) (fun _ => hno) (fun h => absurd h (by omega)) (show (if 0 = 1 ∧ (s63 3050) = 0 then 32770 - (s63 3049) else 0).toNat < m by omega)
                · exfalso; omega
              · show tt Zi d 186 (81, [some (.inr (.inl 30)), some (.inl r11), some (.inl mo)], [], n, D, s63, p, c0) _
                refine tt_k 4 (S' := (88, [some (.inr (.inl 30)), some (.inl r11), some (.inl 1)], [.inl 1], n, D, s63, p, c0)) rfl ?_
                refine tz_eq (x := 1) rfl rfl (by omega) (fun h87 => ?_) (fun h87 => ?_)
                · exfalso; omega
                · show tt Zi d 186 (91, [some (.inr (.inl 30)), some (.inl r11), some (.inl 1)], [], n, D, s63, p, c0) _
                  refine tt_k 2 (S' := (95, [some (.inr (.inl 30)), some (.inl r11), some (.inl 1)], [.inl (s63 3050)], n, D, s63, p, c0)) rfl ?_
                  refine tz_ne (x := (s63 3050)) rfl rfl (by omega) (fun h88 => ?_) (fun h88 => ?_)
                  · show tt Zi d 186 (32, [some (.inr (.inl 30)), some (.inl r11), some (.inl 1)], [], n, D, s63, p, c0) _
                    exact ih r11 1 s63 c0 (by omega) (by omega) hS63 (fr_tr (fr_tr hF0 f12 (by decide)) f64 (by decide)) hC0 hG0 (fun h => absurd h (by omega)) (fun h => absurd h (by omega)) (fun _ => hno) (fun h => absurd h (by omega)) (show (if 1 = 1 ∧ (s63 3050) = 0 then 32770 - (s63 3049) else 0).toNat < m by omega)
                  · exfalso; omega
        · skip
          obtain ⟨n_, S, hfu, hSa, hsec, hrr, hmr⟩ := i0 (by omega) (by omega)
          have hno : rrN R (c0 40) (c0 41) (c0 42) (c0 43) := ⟨_, (by rw [← hsec]; exact secs_n (by rw [hSa]; exact k15 hf1)), hmr⟩
          refine tt_k 3 (S' := (52, [some (.inr (.inl 30)), some (.inl r11), some (.inl mo)], [.inl (s10 3050)], n, D, s10, p, c0)) rfl ?_
          refine tz_ne (x := (s10 3050)) rfl rfl (by omega) (fun h89 => ?_) (fun h89 => ?_)
          · show tt Zi d 186 (74, [some (.inr (.inl 30)), some (.inl r11), some (.inl mo)], [], n, D, s10, p, c0) _
            refine tt_k 2 (S' := (78, [some (.inr (.inl 30)), some (.inl r11), some (.inl mo)], [.inl 217, .inl r11], n, D, s10, p, c0)) rfl ?_
            refine tb_eq (x := r11) (y := 217) rfl rfl (by omega) (fun h90 => ?_) (fun h90 => ?_)
            · show tt Zi d 186 (85, [some (.inr (.inl 30)), some (.inl r11), some (.inl mo)], [], n, D, s10, p, c0) _
              refine tt_k 3 (S' := (88, [some (.inr (.inl 30)), some (.inl r11), some (.inl 0)], [.inl 0], n, D, s10, p, c0)) rfl ?_
              refine tz_eq (x := 0) rfl rfl (by omega) (fun h91 => ?_) (fun h91 => ?_)
              · show tt Zi d 186 (32, [some (.inr (.inl 30)), some (.inl r11), some (.inl 0)], [], n, D, s10, p, c0) _
                exact ih r11 0 s10 c0 (by omega) (by omega) hS10 (fr_tr hF0 f12 (by decide)) hC0 hG0 (fun h => absurd h (by omega)) (fun h => absurd h (by omega)) (fun _ => hno) (fun h => absurd h (by omega)) (show (if 0 = 1 ∧ (s10 3050) = 0 then 32770 - (s10 3049) else 0).toNat < m by omega)
              · exfalso; omega
            · show tt Zi d 186 (81, [some (.inr (.inl 30)), some (.inl r11), some (.inl mo)], [], n, D, s10, p, c0) _
              refine tt_k 4 (S' := (88, [some (.inr (.inl 30)), some (.inl r11), some (.inl 1)], [.inl 1], n, D, s10, p, c0)) rfl ?_
              refine tz_eq (x := 1) rfl rfl (by omega) (fun h92 => ?_) (fun h92 => ?_)
              · exfalso; omega
              · show tt Zi d 186 (91, [some (.inr (.inl 30)), some (.inl r11), some (.inl 1)], [], n, D, s10, p, c0) _
                refine tt_k 2 (S' := (95, [some (.inr (.inl 30)), some (.inl r11), some (.inl 1)], [.inl (s10 3050)], n, D, s10, p, c0)) rfl ?_
                refine tz_ne (x := (s10 3050)) rfl rfl (by omega) (fun h93 => ?_) (fun h93 => ?_)
                · show tt Zi d 186 (32, [some (.inr (.inl 30)), some (.inl r11), some (.inl 1)], [], n, D, s10, p, c0) _
                  exact ih r11 1 s10 c0 (by omega) (by omega) hS10 (fr_tr hF0 f12 (by decide)) hC0 hG0 (fun h => absurd h (by omega)) (fun h => absurd h (by omega)) (fun _ => hno) (fun h => absurd h (by omega)) (show (if 1 = 1 ∧ (s10 3050) = 0 then 32770 - (s10 3049) else 0).toNat < m by omega)
                · exfalso; omega
          · exfalso; omega
set_option maxRecDepth 100000 in
set_option maxHeartbeats 4000000 in
theorem v_readAll {Zi : Nat → Option (Nat × (Nat → Int))} {d n : Nat} {D : Nat → Nat × Nat} {s : Nat → Int} {p : Nat → Nat} {c : Nat → Nat → Int} (hd : 10 ≤ d) (hS : bS s) (hC : bC D c) (A : TN) (K0 : MT) (hp0 : tpl A (s 3014) (c 34)) (hp1 : s 3050 = 0) (hp2 : s 3049 = 0) (hp3 : mrl K0 (c 40) (c 41) (c 42) (c 43)) (hp4 : s 3059 = 0 ∧ s 3061 = 0) (hp5 : ∀ i : Nat, i < 5 → c 46 i = 0) : tt Zi d 186 (0, [some (.inr (.inl 30)), none, none], [], n, D, s, p, c) (fun R H => ∃ (s' : Nat → Int) (c' : Nat → Nat → Int), R = .inl none ∧ H = (n, D, s', p, c') ∧ bS s' ∧ bC D c' ∧ fr s s' [3017, 3018, 3019, 3020, 3021, 3022, 3023, 3024, 3025, 3026, 3035, 3036, 3037, 3038, 3039, 3041, 3042, 3043, 3044, 3045, 3046, 3049, 3050, 3051, 3052, 3053, 3054, 3057, 3058, 3059, 3060, 3061] ∧ frc c c' [36, 37, 38, 39, 40, 41, 42, 43, 44, 45, 46] ∧ (s' 3050 = 0 → ∃ S, (rowR A K0) = (some S, S.2.2.2.2.2.1) ∧ rrS A (s' 3059) (s' 3061) (s' 3057) (s' 3058) (s' 3060) (c' 45) (c' 46) (c' 44) S ∧ mrl S.2.2.2.2.2.1 (c' 40) (c' 41) (c' 42) (c' 43) ∧ (s' 3059 ≠ 0 ∧ s' 3061 = s' 3059)) ∧ (s' 3050 ≠ 0 → rrN (rowR A K0) (c' 40) (c' 41) (c' 42) (c' 43))) := by
  have hA := hp0.1
  have b1 : 0 ≤ (s 3049) ∧ (s 3049) ≤ 32769 := hS 3049
  have b2 : 0 ≤ (s 3014) ∧ (s 3014) ≤ 32768 := hS 3014
  have b3 : 0 ≤ (s 3050) ∧ (s 3050) ≤ 8 := hS 3050
  refine tt_k 1 (S' := (1, [some (.inr (.inl 30)), none, none], [.inr (.inl 30)], n, D, s, p, c)) rfl ?_
  refine tt_cl (by omega) rfl (y_nextMark (Zi := Zi) (D := D) (s := s) (p := p) (c := c) (by omega) hS hC A hp0 (show (s 3050) = 0 by omega)) ?_
  rintro _ _ ⟨s4, r5, rfl, rfl, hS4, f6, b7, k8, k9, k10, k11⟩
  show tt Zi d 186 (4, [some (.inr (.inl 30)), none, none], [.inl r5], n, D, s4, p, c) _
  replace k8 : (s4 3050) = 0 → (rdMk A ((s 3049))) = some (r5, (s4 3049)) := k8
  replace k9 : (s4 3050) ≠ 0 → (rdMk A ((s 3049))) = none := k9
  replace k10 : (s4 3050) = 0 → (s 3049) + 2 ≤ (s4 3049) ∧ (s4 3049) ≤ (s 3014) := k10
  replace k11 : (s 3049) ≤ (s4 3049) := k11
  have b12 : 0 ≤ (s4 3050) ∧ (s4 3050) ≤ 8 := hS4 3050
  have b13 : 0 ≤ (s4 3049) ∧ (s4 3049) ≤ 32769 := hS4 3049
  have e14 : s4 3061 = (s 3061) := (f6 3061 (by decide))
  have b15 : 0 ≤ (s4 3061) ∧ (s4 3061) ≤ 3 := hS4 3061
  have b16 : 0 ≤ (s 3061) ∧ (s 3061) ≤ 3 := hS 3061
  have e17 : s4 3059 = (s 3059) := (f6 3059 (by decide))
  have b18 : 0 ≤ (s4 3059) ∧ (s4 3059) ≤ 3 := hS4 3059
  have b19 : 0 ≤ (s 3059) ∧ (s 3059) ≤ 3 := hS 3059
  have e20 : s4 3060 = (s 3060) := (f6 3060 (by decide))
  have b21 : 0 ≤ (s4 3060) ∧ (s4 3060) ≤ 255 := hS4 3060
  have b22 : 0 ≤ (s 3060) ∧ (s 3060) ≤ 255 := hS 3060
  have e23 : s4 3057 = (s 3057) := (f6 3057 (by decide))
  have b24 : 0 ≤ (s4 3057) ∧ (s4 3057) ≤ 65535 := hS4 3057
  have b25 : 0 ≤ (s 3057) ∧ (s 3057) ≤ 65535 := hS 3057
  have e26 : s4 3058 = (s 3058) := (f6 3058 (by decide))
  have b27 : 0 ≤ (s4 3058) ∧ (s4 3058) ≤ 65535 := hS4 3058
  have b28 : 0 ≤ (s 3058) ∧ (s 3058) ≤ 65535 := hS 3058
  have e29 : s4 3014 = (s 3014) := (f6 3014 (by decide))
  have b30 : 0 ≤ (s4 3014) ∧ (s4 3014) ≤ 32768 := hS4 3014
  have hx31 : tpl A (s4 3014) (c 34) := by rw [f6 3014 (by decide)]; exact hp0
  by_cases hf1 : s4 3050 = 0
  · skip
    have hm1 : rdMk A 0 = some (r5, s4 3049) := by have h := k8 hf1; rw [hp2] at h; exact h
    refine tt_k 3 (S' := (9, [some (.inr (.inl 30)), some (.inl r5), none], [.inl (s4 3050)], n, D, s4, p, c)) rfl ?_
    refine tz_ne (x := (s4 3050)) rfl rfl (by omega) (fun h32 => ?_) (fun h32 => ?_)
    · exfalso; omega
    · show tt Zi d 186 (12, [some (.inr (.inl 30)), some (.inl r5), none], [], n, D, s4, p, c) _
      refine tt_k 2 (S' := (16, [some (.inr (.inl 30)), some (.inl r5), none], [.inl 216, .inl r5], n, D, s4, p, c)) rfl ?_
      refine tb_eq (x := r5) (y := 216) rfl rfl (by omega) (fun h33 => ?_) (fun h33 => ?_)
      · show tt Zi d 186 (30, [some (.inr (.inl 30)), some (.inl r5), none], [], n, D, s4, p, c) _
        refine tt_k 2 (S' := (32, [some (.inr (.inl 30)), some (.inl r5), some (.inl 1)], [], n, D, s4, p, c)) rfl ?_
        have hr1 := rowR_s (K := K0) (by rw [← show r5 = 216 by omega]; exact hm1)
        refine v_readAll_L32 (Zi := Zi) (D := D) (s := s4) (p := p) (c := c) hd hS4 hC A (rowR A K0)  hx31 ?_ _ r5 1 s4 c (by omega) (by omega) hS4 fr_rf hC frc_rf (fun _ _ => ⟨40000, _, by omega, rfl, hr1.symm, (by rw [show s4 3059 = s 3059 by omega, show s4 3061 = s 3061 by omega]; exact rrS_0 hp4 hp5), hp3⟩) (fun _ h => absurd h (by decide)) (fun h => absurd h (by omega)) (show (s4 3050) = 0 → (s4 3049) ≤ 32769 by omega) (Nat.lt_succ_self _)
        intro x34 x35 s36 c37 b38 b39 hS36 f40 hC37 g41 i42 i43 i44 i45 hx46
        show tt Zi d 186 (106, [some (.inr (.inl 30)), some (.inl x34), some (.inl x35)], [], n, D, s36, p, c37) _
        have e47 : s36 3014 = (s4 3014) := (f40 3014 (by decide))
        have b48 : 0 ≤ (s36 3014) ∧ (s36 3014) ≤ 32768 := hS36 3014
        have hx49 : tpl A (s36 3014) (c37 34) := by rw [f40 3014 (by decide), g41 34 (by decide)]; exact hx31
        have b50 : 0 ≤ (s36 3050) ∧ (s36 3050) ≤ 8 := hS36 3050
        by_cases hf3 : s36 3050 = 0
        · skip
          have hmo : x35 = 0 := by have h := hx46; omega
          obtain ⟨N9, S, hrr, hmr, hps, hsec⟩ := i43 hf3 hmo
          refine tt_k 2 (S' := (110, [some (.inr (.inl 30)), some (.inl x34), some (.inl x35)], [.inl (s36 3050)], n, D, s36, p, c37)) rfl ?_
          refine tz_ne (x := (s36 3050)) rfl rfl (by omega) (fun h51 => ?_) (fun h51 => ?_)
          · exfalso; omega
          · show tt Zi d 186 (113, [some (.inr (.inl 30)), some (.inl x34), some (.inl x35)], [], n, D, s36, p, c37) _
            refine tt_k 4 (S' := (121, [some (.inr (.inl 30)), some (.inl x34), some (.inl x35)], [.inl (s36 3014), .inl (s36 3049)], n, D, s36, p, c37)) rfl ?_
            have b52 : 0 ≤ (s36 3049) ∧ (s36 3049) ≤ 32769 := hS36 3049
            refine tb_ge (x := (s36 3049)) (y := (s36 3014)) rfl rfl (by omega) (fun h53 => ?_) (fun h53 => ?_)
            · show tt Zi d 186 (134, [some (.inr (.inl 30)), some (.inl x34), some (.inl x35)], [], n, D, s36, p, c37) _
              exact tt_rtv rfl rfl ⟨s36, c37, rfl, rfl, hS36, hC37, (fr_tr (fr_tr fr_rf f6 (by decide)) f40 (by decide)), (frc_tr frc_rf g41 (by decide)), by show (s36 3050) = 0 → ∃ S, (rowR A K0) = (some S, S.2.2.2.2.2.1) ∧ rrS A ((s36 3059)) ((s36 3061)) ((s36 3057)) ((s36 3058)) ((s36 3060)) ((c37 45)) ((c37 46)) ((c37 44)) S ∧ mrl S.2.2.2.2.2.1 ((c37 40)) ((c37 41)) ((c37 42)) ((c37 43)) ∧ ((s36 3059) ≠ 0 ∧ (s36 3061) = (s36 3059)); intro hf; exact ⟨S, by rw [← hsec]; exact secK_y (by have h1 := hrr.2.1; have h2 := hrr.2.2.1; omega), hrr, hmr, by omega⟩, by show (s36 3050) ≠ 0 → rrN (rowR A K0) ((c37 40)) ((c37 41)) ((c37 42)) ((c37 43)); intro hf; exact absurd hf (by omega)⟩
            · show tt Zi d 186 (124, [some (.inr (.inl 30)), some (.inl x34), some (.inl x35)], [], n, D, s36, p, c37) _
              refine tt_k 4 (S' := (131, [some (.inr (.inl 30)), some (.inl x34), some (.inl x35)], [.inl (s36 3049), .inl 8, .inr (.inl 30)], n, D, s36, p, c37)) rfl ?_
              refine tt_cl (by omega) rfl (k_fail (Zi := Zi) (D := D) (s := s36) (p := p) (c := c37) (by omega) hS36 hC37 8 (s36 3049) (by omega) (by omega)) ?_
              rintro _ _ ⟨s54, rfl, rfl, hS54, f55, k56, k57⟩
              show tt Zi d 186 (134, [some (.inr (.inl 30)), some (.inl x34), some (.inl x35)], [], n, D, s54, p, c37) _
              replace k56 : ((s36 3050) = 0 → (s54 3050) = 8 ∧ (s54 3051) = (s36 3049)) := k56
              replace k57 : ((s36 3050) ≠ 0 → (s54 3050) = (s36 3050) ∧ (s54 3051) = (s36 3051)) := k57
              have b58 : 0 ≤ (s54 3050) ∧ (s54 3050) ≤ 8 := hS54 3050
              have b59 : -1 ≤ (s54 3051) ∧ (s54 3051) ≤ 32769 := hS54 3051
              have b60 : -1 ≤ (s36 3051) ∧ (s36 3051) ≤ 32769 := hS36 3051
              have e61 : s54 3049 = (s36 3049) := (f55 3049 (by decide))
              have b62 : 0 ≤ (s54 3049) ∧ (s54 3049) ≤ 32769 := hS54 3049
              have e63 : s54 3061 = (s36 3061) := (f55 3061 (by decide))
              have b64 : 0 ≤ (s54 3061) ∧ (s54 3061) ≤ 3 := hS54 3061
              have b65 : 0 ≤ (s36 3061) ∧ (s36 3061) ≤ 3 := hS36 3061
              have e66 : s54 3059 = (s36 3059) := (f55 3059 (by decide))
              have b67 : 0 ≤ (s54 3059) ∧ (s54 3059) ≤ 3 := hS54 3059
              have b68 : 0 ≤ (s36 3059) ∧ (s36 3059) ≤ 3 := hS36 3059
              have e69 : s54 3060 = (s36 3060) := (f55 3060 (by decide))
              have b70 : 0 ≤ (s54 3060) ∧ (s54 3060) ≤ 255 := hS54 3060
              have b71 : 0 ≤ (s36 3060) ∧ (s36 3060) ≤ 255 := hS36 3060
              have e72 : s54 3057 = (s36 3057) := (f55 3057 (by decide))
              have b73 : 0 ≤ (s54 3057) ∧ (s54 3057) ≤ 65535 := hS54 3057
              have b74 : 0 ≤ (s36 3057) ∧ (s36 3057) ≤ 65535 := hS36 3057
              have e75 : s54 3058 = (s36 3058) := (f55 3058 (by decide))
              have b76 : 0 ≤ (s54 3058) ∧ (s54 3058) ≤ 65535 := hS54 3058
              have b77 : 0 ≤ (s36 3058) ∧ (s36 3058) ≤ 65535 := hS36 3058
              have e78 : s54 3014 = (s36 3014) := (f55 3014 (by decide))
              have b79 : 0 ≤ (s54 3014) ∧ (s54 3014) ≤ 32768 := hS54 3014
              have hx80 : tpl A (s54 3014) (c37 34) := by rw [f55 3014 (by decide)]; exact hx49
              have hff : s54 3050 ≠ 0 := by have h := k56 (by omega); omega
              have hno : rrN (rowR A K0) (c37 40) (c37 41) (c37 42) (c37 43) := ⟨_, (by rw [← hsec]; exact secK_x (by omega)), hmr⟩
              exact tt_rtv rfl rfl ⟨s54, c37, rfl, rfl, hS54, hC37, (fr_tr (fr_tr (fr_tr fr_rf f6 (by decide)) f40 (by decide)) f55 (by decide)), (frc_tr frc_rf g41 (by decide)), by show (s54 3050) = 0 → ∃ S, (rowR A K0) = (some S, S.2.2.2.2.2.1) ∧ rrS A ((s54 3059)) ((s54 3061)) ((s54 3057)) ((s54 3058)) ((s54 3060)) ((c37 45)) ((c37 46)) ((c37 44)) S ∧ mrl S.2.2.2.2.2.1 ((c37 40)) ((c37 41)) ((c37 42)) ((c37 43)) ∧ ((s54 3059) ≠ 0 ∧ (s54 3061) = (s54 3059)); intro hf; exact absurd hf (by omega), by show (s54 3050) ≠ 0 → rrN (rowR A K0) ((c37 40)) ((c37 41)) ((c37 42)) ((c37 43)); intro _; exact hno⟩
        · skip
          have hno := i44 hf3
          refine tt_k 2 (S' := (110, [some (.inr (.inl 30)), some (.inl x34), some (.inl x35)], [.inl (s36 3050)], n, D, s36, p, c37)) rfl ?_
          refine tz_ne (x := (s36 3050)) rfl rfl (by omega) (fun h81 => ?_) (fun h81 => ?_)
          · show tt Zi d 186 (134, [some (.inr (.inl 30)), some (.inl x34), some (.inl x35)], [], n, D, s36, p, c37) _
            exact tt_rtv rfl rfl ⟨s36, c37, rfl, rfl, hS36, hC37, (fr_tr (fr_tr fr_rf f6 (by decide)) f40 (by decide)), (frc_tr frc_rf g41 (by decide)), by show (s36 3050) = 0 → ∃ S, (rowR A K0) = (some S, S.2.2.2.2.2.1) ∧ rrS A ((s36 3059)) ((s36 3061)) ((s36 3057)) ((s36 3058)) ((s36 3060)) ((c37 45)) ((c37 46)) ((c37 44)) S ∧ mrl S.2.2.2.2.2.1 ((c37 40)) ((c37 41)) ((c37 42)) ((c37 43)) ∧ ((s36 3059) ≠ 0 ∧ (s36 3061) = (s36 3059)); intro hf; exact absurd hf (by omega), by show (s36 3050) ≠ 0 → rrN (rowR A K0) ((c37 40)) ((c37 41)) ((c37 42)) ((c37 43)); intro _; exact hno⟩
          · exfalso; omega
      · show tt Zi d 186 (19, [some (.inr (.inl 30)), some (.inl r5), none], [], n, D, s4, p, c) _
        refine tt_k 6 (S' := (27, [some (.inr (.inl 30)), some (.inl r5), none], [.inl ((s4 3049) - 1), .inl 3, .inr (.inl 30)], n, D, s4, p, c)) rfl ?_
        refine tt_cl (by omega) rfl (k_fail (Zi := Zi) (D := D) (s := s4) (p := p) (c := c) (by omega) hS4 hC 3 ((s4 3049) - 1) (by omega) (by omega)) ?_
        rintro _ _ ⟨s82, rfl, rfl, hS82, f83, k84, k85⟩
        show tt Zi d 186 (30, [some (.inr (.inl 30)), some (.inl r5), none], [], n, D, s82, p, c) _
        replace k84 : ((s4 3050) = 0 → (s82 3050) = 3 ∧ (s82 3051) = ((s4 3049) - 1)) := k84
        replace k85 : ((s4 3050) ≠ 0 → (s82 3050) = (s4 3050) ∧ (s82 3051) = (s4 3051)) := k85
        have b86 : 0 ≤ (s82 3050) ∧ (s82 3050) ≤ 8 := hS82 3050
        have b87 : -1 ≤ (s82 3051) ∧ (s82 3051) ≤ 32769 := hS82 3051
        have b88 : -1 ≤ (s4 3051) ∧ (s4 3051) ≤ 32769 := hS4 3051
        have e89 : s82 3049 = (s4 3049) := (f83 3049 (by decide))
        have b90 : 0 ≤ (s82 3049) ∧ (s82 3049) ≤ 32769 := hS82 3049
        have e91 : s82 3061 = (s4 3061) := (f83 3061 (by decide))
        have b92 : 0 ≤ (s82 3061) ∧ (s82 3061) ≤ 3 := hS82 3061
        have e93 : s82 3059 = (s4 3059) := (f83 3059 (by decide))
        have b94 : 0 ≤ (s82 3059) ∧ (s82 3059) ≤ 3 := hS82 3059
        have e95 : s82 3060 = (s4 3060) := (f83 3060 (by decide))
        have b96 : 0 ≤ (s82 3060) ∧ (s82 3060) ≤ 255 := hS82 3060
        have e97 : s82 3057 = (s4 3057) := (f83 3057 (by decide))
        have b98 : 0 ≤ (s82 3057) ∧ (s82 3057) ≤ 65535 := hS82 3057
        have e99 : s82 3058 = (s4 3058) := (f83 3058 (by decide))
        have b100 : 0 ≤ (s82 3058) ∧ (s82 3058) ≤ 65535 := hS82 3058
        have e101 : s82 3014 = (s4 3014) := (f83 3014 (by decide))
        have b102 : 0 ≤ (s82 3014) ∧ (s82 3014) ≤ 32768 := hS82 3014
        have hx103 : tpl A (s82 3014) (c 34) := by rw [f83 3014 (by decide)]; exact hx31
        have hff : s82 3050 ≠ 0 := by have h := k84 (by omega); omega
        have hno : rrN (rowR A K0) (c 40) (c 41) (c 42) (c 43) := ⟨K0, rowR_x hm1 (by omega), hp3⟩
        refine tt_k 2 (S' := (32, [some (.inr (.inl 30)), some (.inl r5), some (.inl 1)], [], n, D, s82, p, c)) rfl ?_
        refine v_readAll_L32 (Zi := Zi) (D := D) (s := s82) (p := p) (c := c) hd hS82 hC A (rowR A K0)  hx103 ?_ _ r5 1 s82 c (by omega) (by omega) hS82 fr_rf hC frc_rf (fun h => absurd h (by omega)) (fun h => absurd h (by omega)) (fun _ => hno) (fun h => absurd h (by omega)) (Nat.lt_succ_self _)
        intro x104 x105 s106 c107 b108 b109 hS106 f110 hC107 g111 i112 i113 i114 i115 hx116
        show tt Zi d 186 (106, [some (.inr (.inl 30)), some (.inl x104), some (.inl x105)], [], n, D, s106, p, c107) _
        have e117 : s106 3014 = (s82 3014) := (f110 3014 (by decide))
        have b118 : 0 ≤ (s106 3014) ∧ (s106 3014) ≤ 32768 := hS106 3014
        have hx119 : tpl A (s106 3014) (c107 34) := by rw [f110 3014 (by decide), g111 34 (by decide)]; exact hx103
        have b120 : 0 ≤ (s106 3050) ∧ (s106 3050) ≤ 8 := hS106 3050
        by_cases hf3 : s106 3050 = 0
        · skip
          have hmo : x105 = 0 := by have h := hx116; omega
          obtain ⟨N9, S, hrr, hmr, hps, hsec⟩ := i113 hf3 hmo
          refine tt_k 2 (S' := (110, [some (.inr (.inl 30)), some (.inl x104), some (.inl x105)], [.inl (s106 3050)], n, D, s106, p, c107)) rfl ?_
          refine tz_ne (x := (s106 3050)) rfl rfl (by omega) (fun h121 => ?_) (fun h121 => ?_)
          · exfalso; omega
          · show tt Zi d 186 (113, [some (.inr (.inl 30)), some (.inl x104), some (.inl x105)], [], n, D, s106, p, c107) _
            refine tt_k 4 (S' := (121, [some (.inr (.inl 30)), some (.inl x104), some (.inl x105)], [.inl (s106 3014), .inl (s106 3049)], n, D, s106, p, c107)) rfl ?_
            have b122 : 0 ≤ (s106 3049) ∧ (s106 3049) ≤ 32769 := hS106 3049
            refine tb_ge (x := (s106 3049)) (y := (s106 3014)) rfl rfl (by omega) (fun h123 => ?_) (fun h123 => ?_)
            · show tt Zi d 186 (134, [some (.inr (.inl 30)), some (.inl x104), some (.inl x105)], [], n, D, s106, p, c107) _
              exact tt_rtv rfl rfl ⟨s106, c107, rfl, rfl, hS106, hC107, (fr_tr (fr_tr (fr_tr fr_rf f6 (by decide)) f83 (by decide)) f110 (by decide)), (frc_tr frc_rf g111 (by decide)), by show (s106 3050) = 0 → ∃ S, (rowR A K0) = (some S, S.2.2.2.2.2.1) ∧ rrS A ((s106 3059)) ((s106 3061)) ((s106 3057)) ((s106 3058)) ((s106 3060)) ((c107 45)) ((c107 46)) ((c107 44)) S ∧ mrl S.2.2.2.2.2.1 ((c107 40)) ((c107 41)) ((c107 42)) ((c107 43)) ∧ ((s106 3059) ≠ 0 ∧ (s106 3061) = (s106 3059)); intro hf; exact ⟨S, by rw [← hsec]; exact secK_y (by have h1 := hrr.2.1; have h2 := hrr.2.2.1; omega), hrr, hmr, by omega⟩, by show (s106 3050) ≠ 0 → rrN (rowR A K0) ((c107 40)) ((c107 41)) ((c107 42)) ((c107 43)); intro hf; exact absurd hf (by omega)⟩
            · show tt Zi d 186 (124, [some (.inr (.inl 30)), some (.inl x104), some (.inl x105)], [], n, D, s106, p, c107) _
              refine tt_k 4 (S' := (131, [some (.inr (.inl 30)), some (.inl x104), some (.inl x105)], [.inl (s106 3049), .inl 8, .inr (.inl 30)], n, D, s106, p, c107)) rfl ?_
              refine tt_cl (by omega) rfl (k_fail (Zi := Zi) (D := D) (s := s106) (p := p) (c := c107) (by omega) hS106 hC107 8 (s106 3049) (by omega) (by omega)) ?_
              rintro _ _ ⟨s124, rfl, rfl, hS124, f125, k126, k127⟩
              show tt Zi d 186 (134, [some (.inr (.inl 30)), some (.inl x104), some (.inl x105)], [], n, D, s124, p, c107) _
              replace k126 : ((s106 3050) = 0 → (s124 3050) = 8 ∧ (s124 3051) = (s106 3049)) := k126
              replace k127 : ((s106 3050) ≠ 0 → (s124 3050) = (s106 3050) ∧ (s124 3051) = (s106 3051)) := k127
              have b128 : 0 ≤ (s124 3050) ∧ (s124 3050) ≤ 8 := hS124 3050
              have b129 : -1 ≤ (s124 3051) ∧ (s124 3051) ≤ 32769 := hS124 3051
              have b130 : -1 ≤ (s106 3051) ∧ (s106 3051) ≤ 32769 := hS106 3051
              have e131 : s124 3049 = (s106 3049) := (f125 3049 (by decide))
              have b132 : 0 ≤ (s124 3049) ∧ (s124 3049) ≤ 32769 := hS124 3049
              have e133 : s124 3061 = (s106 3061) := (f125 3061 (by decide))
              have b134 : 0 ≤ (s124 3061) ∧ (s124 3061) ≤ 3 := hS124 3061
              have b135 : 0 ≤ (s106 3061) ∧ (s106 3061) ≤ 3 := hS106 3061
              have e136 : s124 3059 = (s106 3059) := (f125 3059 (by decide))
              have b137 : 0 ≤ (s124 3059) ∧ (s124 3059) ≤ 3 := hS124 3059
              have b138 : 0 ≤ (s106 3059) ∧ (s106 3059) ≤ 3 := hS106 3059
              have e139 : s124 3060 = (s106 3060) := (f125 3060 (by decide))
              have b140 : 0 ≤ (s124 3060) ∧ (s124 3060) ≤ 255 := hS124 3060
              have b141 : 0 ≤ (s106 3060) ∧ (s106 3060) ≤ 255 := hS106 3060
              have e142 : s124 3057 = (s106 3057) := (f125 3057 (by decide))
              have b143 : 0 ≤ (s124 3057) ∧ (s124 3057) ≤ 65535 := hS124 3057
              have b144 : 0 ≤ (s106 3057) ∧ (s106 3057) ≤ 65535 := hS106 3057
              have e145 : s124 3058 = (s106 3058) := (f125 3058 (by decide))
              have b146 : 0 ≤ (s124 3058) ∧ (s124 3058) ≤ 65535 := hS124 3058
              have b147 : 0 ≤ (s106 3058) ∧ (s106 3058) ≤ 65535 := hS106 3058
              have e148 : s124 3014 = (s106 3014) := (f125 3014 (by decide))
              have b149 : 0 ≤ (s124 3014) ∧ (s124 3014) ≤ 32768 := hS124 3014
              have hx150 : tpl A (s124 3014) (c107 34) := by rw [f125 3014 (by decide)]; exact hx119
              have hff : s124 3050 ≠ 0 := by have h := k126 (by omega); omega
              have hno : rrN (rowR A K0) (c107 40) (c107 41) (c107 42) (c107 43) := ⟨_, (by rw [← hsec]; exact secK_x (by omega)), hmr⟩
              exact tt_rtv rfl rfl ⟨s124, c107, rfl, rfl, hS124, hC107, (fr_tr (fr_tr (fr_tr (fr_tr fr_rf f6 (by decide)) f83 (by decide)) f110 (by decide)) f125 (by decide)), (frc_tr frc_rf g111 (by decide)), by show (s124 3050) = 0 → ∃ S, (rowR A K0) = (some S, S.2.2.2.2.2.1) ∧ rrS A ((s124 3059)) ((s124 3061)) ((s124 3057)) ((s124 3058)) ((s124 3060)) ((c107 45)) ((c107 46)) ((c107 44)) S ∧ mrl S.2.2.2.2.2.1 ((c107 40)) ((c107 41)) ((c107 42)) ((c107 43)) ∧ ((s124 3059) ≠ 0 ∧ (s124 3061) = (s124 3059)); intro hf; exact absurd hf (by omega), by show (s124 3050) ≠ 0 → rrN (rowR A K0) ((c107 40)) ((c107 41)) ((c107 42)) ((c107 43)); intro _; exact hno⟩
        · skip
          have hno := i114 hf3
          refine tt_k 2 (S' := (110, [some (.inr (.inl 30)), some (.inl x104), some (.inl x105)], [.inl (s106 3050)], n, D, s106, p, c107)) rfl ?_
          refine tz_ne (x := (s106 3050)) rfl rfl (by omega) (fun h151 => ?_) (fun h151 => ?_)
          · show tt Zi d 186 (134, [some (.inr (.inl 30)), some (.inl x104), some (.inl x105)], [], n, D, s106, p, c107) _
            exact tt_rtv rfl rfl ⟨s106, c107, rfl, rfl, hS106, hC107, (fr_tr (fr_tr (fr_tr fr_rf f6 (by decide)) f83 (by decide)) f110 (by decide)), (frc_tr frc_rf g111 (by decide)), by show (s106 3050) = 0 → ∃ S, (rowR A K0) = (some S, S.2.2.2.2.2.1) ∧ rrS A ((s106 3059)) ((s106 3061)) ((s106 3057)) ((s106 3058)) ((s106 3060)) ((c107 45)) ((c107 46)) ((c107 44)) S ∧ mrl S.2.2.2.2.2.1 ((c107 40)) ((c107 41)) ((c107 42)) ((c107 43)) ∧ ((s106 3059) ≠ 0 ∧ (s106 3061) = (s106 3059)); intro hf; exact absurd hf (by omega), by show (s106 3050) ≠ 0 → rrN (rowR A K0) ((c107 40)) ((c107 41)) ((c107 42)) ((c107 43)); intro _; exact hno⟩
          · exfalso; omega
  · skip
    have hno : rrN (rowR A K0) (c 40) (c 41) (c 42) (c 43) := ⟨K0, rowR_n (by have h := k9 hf1; rw [hp2] at h; exact h), hp3⟩
    refine tt_k 3 (S' := (9, [some (.inr (.inl 30)), some (.inl r5), none], [.inl (s4 3050)], n, D, s4, p, c)) rfl ?_
    refine tz_ne (x := (s4 3050)) rfl rfl (by omega) (fun h152 => ?_) (fun h152 => ?_)
    · show tt Zi d 186 (30, [some (.inr (.inl 30)), some (.inl r5), none], [], n, D, s4, p, c) _
      refine tt_k 2 (S' := (32, [some (.inr (.inl 30)), some (.inl r5), some (.inl 1)], [], n, D, s4, p, c)) rfl ?_
      refine v_readAll_L32 (Zi := Zi) (D := D) (s := s4) (p := p) (c := c) hd hS4 hC A (rowR A K0)  hx31 ?_ _ r5 1 s4 c (by omega) (by omega) hS4 fr_rf hC frc_rf (fun h => absurd h (by omega)) (fun h => absurd h (by omega)) (fun _ => hno) (fun h => absurd h (by omega)) (Nat.lt_succ_self _)
      intro x153 x154 s155 c156 b157 b158 hS155 f159 hC156 g160 i161 i162 i163 i164 hx165
      show tt Zi d 186 (106, [some (.inr (.inl 30)), some (.inl x153), some (.inl x154)], [], n, D, s155, p, c156) _
      have e166 : s155 3014 = (s4 3014) := (f159 3014 (by decide))
      have b167 : 0 ≤ (s155 3014) ∧ (s155 3014) ≤ 32768 := hS155 3014
      have hx168 : tpl A (s155 3014) (c156 34) := by rw [f159 3014 (by decide), g160 34 (by decide)]; exact hx31
      have b169 : 0 ≤ (s155 3050) ∧ (s155 3050) ≤ 8 := hS155 3050
      by_cases hf3 : s155 3050 = 0
      · skip
        have hmo : x154 = 0 := by have h := hx165; omega
        obtain ⟨N9, S, hrr, hmr, hps, hsec⟩ := i162 hf3 hmo
        refine tt_k 2 (S' := (110, [some (.inr (.inl 30)), some (.inl x153), some (.inl x154)], [.inl (s155 3050)], n, D, s155, p, c156)) rfl ?_
        refine tz_ne (x := (s155 3050)) rfl rfl (by omega) (fun h170 => ?_) (fun h170 => ?_)
        · exfalso; omega
        · show tt Zi d 186 (113, [some (.inr (.inl 30)), some (.inl x153), some (.inl x154)], [], n, D, s155, p, c156) _
          refine tt_k 4 (S' := (121, [some (.inr (.inl 30)), some (.inl x153), some (.inl x154)], [.inl (s155 3014), .inl (s155 3049)], n, D, s155, p, c156)) rfl ?_
          have b171 : 0 ≤ (s155 3049) ∧ (s155 3049) ≤ 32769 := hS155 3049
          refine tb_ge (x := (s155 3049)) (y := (s155 3014)) rfl rfl (by omega) (fun h172 => ?_) (fun h172 => ?_)
          · show tt Zi d 186 (134, [some (.inr (.inl 30)), some (.inl x153), some (.inl x154)], [], n, D, s155, p, c156) _
            exact tt_rtv rfl rfl ⟨s155, c156, rfl, rfl, hS155, hC156, (fr_tr (fr_tr fr_rf f6 (by decide)) f159 (by decide)), (frc_tr frc_rf g160 (by decide)), by show (s155 3050) = 0 → ∃ S, (rowR A K0) = (some S, S.2.2.2.2.2.1) ∧ rrS A ((s155 3059)) ((s155 3061)) ((s155 3057)) ((s155 3058)) ((s155 3060)) ((c156 45)) ((c156 46)) ((c156 44)) S ∧ mrl S.2.2.2.2.2.1 ((c156 40)) ((c156 41)) ((c156 42)) ((c156 43)) ∧ ((s155 3059) ≠ 0 ∧ (s155 3061) = (s155 3059)); intro hf; exact ⟨S, by rw [← hsec]; exact secK_y (by have h1 := hrr.2.1; have h2 := hrr.2.2.1; omega), hrr, hmr, by omega⟩, by show (s155 3050) ≠ 0 → rrN (rowR A K0) ((c156 40)) ((c156 41)) ((c156 42)) ((c156 43)); intro hf; exact absurd hf (by omega)⟩
          · show tt Zi d 186 (124, [some (.inr (.inl 30)), some (.inl x153), some (.inl x154)], [], n, D, s155, p, c156) _
            refine tt_k 4 (S' := (131, [some (.inr (.inl 30)), some (.inl x153), some (.inl x154)], [.inl (s155 3049), .inl 8, .inr (.inl 30)], n, D, s155, p, c156)) rfl ?_
            refine tt_cl (by omega) rfl (k_fail (Zi := Zi) (D := D) (s := s155) (p := p) (c := c156) (by omega) hS155 hC156 8 (s155 3049) (by omega) (by omega)) ?_
            rintro _ _ ⟨s173, rfl, rfl, hS173, f174, k175, k176⟩
            show tt Zi d 186 (134, [some (.inr (.inl 30)), some (.inl x153), some (.inl x154)], [], n, D, s173, p, c156) _
            replace k175 : ((s155 3050) = 0 → (s173 3050) = 8 ∧ (s173 3051) = (s155 3049)) := k175
            replace k176 : ((s155 3050) ≠ 0 → (s173 3050) = (s155 3050) ∧ (s173 3051) = (s155 3051)) := k176
            have b177 : 0 ≤ (s173 3050) ∧ (s173 3050) ≤ 8 := hS173 3050
            have b178 : -1 ≤ (s173 3051) ∧ (s173 3051) ≤ 32769 := hS173 3051
            have b179 : -1 ≤ (s155 3051) ∧ (s155 3051) ≤ 32769 := hS155 3051
            have e180 : s173 3049 = (s155 3049) := (f174 3049 (by decide))
            have b181 : 0 ≤ (s173 3049) ∧ (s173 3049) ≤ 32769 := hS173 3049
            have e182 : s173 3061 = (s155 3061) := (f174 3061 (by decide))
            have b183 : 0 ≤ (s173 3061) ∧ (s173 3061) ≤ 3 := hS173 3061
            have b184 : 0 ≤ (s155 3061) ∧ (s155 3061) ≤ 3 := hS155 3061
            have e185 : s173 3059 = (s155 3059) := (f174 3059 (by decide))
            have b186 : 0 ≤ (s173 3059) ∧ (s173 3059) ≤ 3 := hS173 3059
            have b187 : 0 ≤ (s155 3059) ∧ (s155 3059) ≤ 3 := hS155 3059
            have e188 : s173 3060 = (s155 3060) := (f174 3060 (by decide))
            have b189 : 0 ≤ (s173 3060) ∧ (s173 3060) ≤ 255 := hS173 3060
            have b190 : 0 ≤ (s155 3060) ∧ (s155 3060) ≤ 255 := hS155 3060
            have e191 : s173 3057 = (s155 3057) := (f174 3057 (by decide))
            have b192 : 0 ≤ (s173 3057) ∧ (s173 3057) ≤ 65535 := hS173 3057
            have b193 : 0 ≤ (s155 3057) ∧ (s155 3057) ≤ 65535 := hS155 3057
            have e194 : s173 3058 = (s155 3058) := (f174 3058 (by decide))
            have b195 : 0 ≤ (s173 3058) ∧ (s173 3058) ≤ 65535 := hS173 3058
            have b196 : 0 ≤ (s155 3058) ∧ (s155 3058) ≤ 65535 := hS155 3058
            have e197 : s173 3014 = (s155 3014) := (f174 3014 (by decide))
            have b198 : 0 ≤ (s173 3014) ∧ (s173 3014) ≤ 32768 := hS173 3014
            have hx199 : tpl A (s173 3014) (c156 34) := by rw [f174 3014 (by decide)]; exact hx168
            have hff : s173 3050 ≠ 0 := by have h := k175 (by omega); omega
            have hno : rrN (rowR A K0) (c156 40) (c156 41) (c156 42) (c156 43) := ⟨_, (by rw [← hsec]; exact secK_x (by omega)), hmr⟩
            exact tt_rtv rfl rfl ⟨s173, c156, rfl, rfl, hS173, hC156, (fr_tr (fr_tr (fr_tr fr_rf f6 (by decide)) f159 (by decide)) f174 (by decide)), (frc_tr frc_rf g160 (by decide)), by show (s173 3050) = 0 → ∃ S, (rowR A K0) = (some S, S.2.2.2.2.2.1) ∧ rrS A ((s173 3059)) ((s173 3061)) ((s173 3057)) ((s173 3058)) ((s173 3060)) ((c156 45)) ((c156 46)) ((c156 44)) S ∧ mrl S.2.2.2.2.2.1 ((c156 40)) ((c156 41)) ((c156 42)) ((c156 43)) ∧ ((s173 3059) ≠ 0 ∧ (s173 3061) = (s173 3059)); intro hf; exact absurd hf (by omega), by show (s173 3050) ≠ 0 → rrN (rowR A K0) ((c156 40)) ((c156 41)) ((c156 42)) ((c156 43)); intro _; exact hno⟩
      · skip
        have hno := i163 hf3
        refine tt_k 2 (S' := (110, [some (.inr (.inl 30)), some (.inl x153), some (.inl x154)], [.inl (s155 3050)], n, D, s155, p, c156)) rfl ?_
        refine tz_ne (x := (s155 3050)) rfl rfl (by omega) (fun h200 => ?_) (fun h200 => ?_)
        · show tt Zi d 186 (134, [some (.inr (.inl 30)), some (.inl x153), some (.inl x154)], [], n, D, s155, p, c156) _
          exact tt_rtv rfl rfl ⟨s155, c156, rfl, rfl, hS155, hC156, (fr_tr (fr_tr fr_rf f6 (by decide)) f159 (by decide)), (frc_tr frc_rf g160 (by decide)), by show (s155 3050) = 0 → ∃ S, (rowR A K0) = (some S, S.2.2.2.2.2.1) ∧ rrS A ((s155 3059)) ((s155 3061)) ((s155 3057)) ((s155 3058)) ((s155 3060)) ((c156 45)) ((c156 46)) ((c156 44)) S ∧ mrl S.2.2.2.2.2.1 ((c156 40)) ((c156 41)) ((c156 42)) ((c156 43)) ∧ ((s155 3059) ≠ 0 ∧ (s155 3061) = (s155 3059)); intro hf; exact absurd hf (by omega), by show (s155 3050) ≠ 0 → rrN (rowR A K0) ((c156 40)) ((c156 41)) ((c156 42)) ((c156 43)); intro _; exact hno⟩
        · exfalso; omega
    · exfalso; omega
set_option maxRecDepth 100000 in
set_option maxHeartbeats 4000000 in
theorem v_unpack_L32 {Zi : Nat → Option (Nat × (Nat → Int))} {d n : Nat} {D : Nat → Nat × Nat} {s : Nat → Int} {p : Nat → Nat} {c : Nat → Nat → Int}  {Q : mi_Rs → mi_H → Prop} (hd : 11 ≤ d) (hS : bS s) (hC : bC D c) 
  (hK : ∀ (k_ : Int) (c0 : Nat → Nat → Int) (b_k_ : 0 ≤ k_ ∧ k_ ≤ 5) (hC0 : bC D c0) (hG0 : frc c c0 [46]) (i0 : ∀ j : Nat, (j : Int) < k_ → c0 46 j = 0), (5 ≤ k_) → tt Zi d 185 (50, [some (.inr (.inl 30)), some (.inl k_)], [], n, D, s, p, c0) Q) :
  ∀ (m : Nat) (k_ : Int) (c0 : Nat → Nat → Int) (b_k_ : 0 ≤ k_ ∧ k_ ≤ 5) (hC0 : bC D c0) (hG0 : frc c c0 [46]) (i0 : ∀ j : Nat, (j : Int) < k_ → c0 46 j = 0), (5 - k_).toNat < m → tt Zi d 185 (32, [some (.inr (.inl 30)), some (.inl k_)], [], n, D, s, p, c0) Q := by
  intro m
  induction m with
  | zero => intro k_ c0 b_k_ hC0 hG0 i0 hm; exact absurd hm (by omega)
  | succ m ih =>
    intro k_ c0 b_k_ hC0 hG0 i0 hm
    refine tt_k 2 (S' := (34, [some (.inr (.inl 30)), some (.inl k_)], [.inl 5, .inl k_], n, D, s, p, c0)) rfl ?_
    refine tb_ge (x := k_) (y := 5) rfl rfl (by omega) (fun h1 => ?_) (fun h1 => ?_)
    · show tt Zi d 185 (50, [some (.inr (.inl 30)), some (.inl k_)], [], n, D, s, p, c0) _
      exact hK k_ c0 (by omega) hC0 hG0 i0 (by omega)
    · show tt Zi d 185 (37, [some (.inr (.inl 30)), some (.inl k_)], [], n, D, s, p, c0) _
      refine tt_k 4 (S' := (43, [some (.inr (.inl 30)), some (.inl k_)], [.inl 0, .inl k_, .inr (.inl 46)], n, D, s, p, c0)) rfl ?_
      refine tt_ist (i := k_) (x := 0) rfl rfl (by omega) ?_
      show tt Zi d 185 (44, [some (.inr (.inl 30)), some (.inl k_)], [], n, D, s, p, (uc c0 46 (ua (c0 46) (k_).toNat 0))) _
      refine tt_k 2 (S' := (32, [some (.inr (.inl 30)), some (.inl (k_ + 1))], [], n, D, s, p, (uc c0 46 (ua (c0 46) (k_).toNat 0)))) rfl ?_
      exact ih (k_ + 1) (uc c0 46 (ua (c0 46) (k_).toNat 0)) (by omega) (bC_st hC0 (show 0 ≤ 0 ∧ 0 ≤ 65535 by omega)) (frc_uc (by decide) hG0) (fun j hj => by show ua (c0 46) k_.toNat 0 j = 0; exact if e : j = k_.toNat then (by rw [e, ua_eq]) else (by rw [ua_ne e]; exact i0 j (by omega))) (show (5 - (k_ + 1)).toNat < m by omega)

set_option maxRecDepth 100000 in
set_option maxHeartbeats 4000000 in
theorem v_unpack_L105 {Zi : Nat → Option (Nat × (Nat → Int))} {d n : Nat} {D : Nat → Nat × Nat} {s : Nat → Int} {p : Nat → Nat} {c : Nat → Nat → Int}  {Q : mi_Rs → mi_H → Prop} (hd : 11 ≤ d) (hS : bS s) (hC : bC D c) 
  (hK : ∀ (k_ : Int) (c0 : Nat → Nat → Int) (b_k_ : 0 ≤ k_ ∧ k_ ≤ 12288) (hC0 : bC D c0) (hG0 : frc c c0 [33]) (i0 : ∀ j : Nat, (j : Int) < k_ → c0 33 j = c 44 j), (12288 ≤ k_) → tt Zi d 185 (130, [some (.inr (.inl 30)), some (.inl k_)], [], n, D, s, p, c0) Q) :
  ∀ (m : Nat) (k_ : Int) (c0 : Nat → Nat → Int) (b_k_ : 0 ≤ k_ ∧ k_ ≤ 12288) (hC0 : bC D c0) (hG0 : frc c c0 [33]) (i0 : ∀ j : Nat, (j : Int) < k_ → c0 33 j = c 44 j), (12288 - k_).toNat < m → tt Zi d 185 (105, [some (.inr (.inl 30)), some (.inl k_)], [], n, D, s, p, c0) Q := by
  intro m
  induction m with
  | zero => intro k_ c0 b_k_ hC0 hG0 i0 hm; exact absurd hm (by omega)
  | succ m ih =>
    intro k_ c0 b_k_ hC0 hG0 i0 hm
    refine tt_k 2 (S' := (109, [some (.inr (.inl 30)), some (.inl k_)], [.inl 12288, .inl k_], n, D, s, p, c0)) rfl ?_
    refine tb_ge (x := k_) (y := 12288) rfl rfl (by omega) (fun h1 => ?_) (fun h1 => ?_)
    · show tt Zi d 185 (130, [some (.inr (.inl 30)), some (.inl k_)], [], n, D, s, p, c0) _
      exact hK k_ c0 (by omega) hC0 hG0 i0 (by omega)
    · show tt Zi d 185 (112, [some (.inr (.inl 30)), some (.inl k_)], [], n, D, s, p, c0) _
      refine tt_k 6 (S' := (122, [some (.inr (.inl 30)), some (.inl k_)], [.inl k_, .inr (.inl 44), .inl k_, .inr (.inl 33)], n, D, s, p, c0)) rfl ?_
      refine tt_ildv (i := k_) (v := (c0 44 (k_).toNat)) rfl rfl (by omega) rfl ?_
      show tt Zi d 185 (123, [some (.inr (.inl 30)), some (.inl k_)], [.inl (c0 44 (k_).toNat), .inl k_, .inr (.inl 33)], n, D, s, p, c0) _
      have b2 : 0 ≤ (c0 44 (k_).toNat) ∧ (c0 44 (k_).toNat) ≤ 65535 := hC0 44 _
      refine tt_ist (i := k_) (x := (c0 44 (k_).toNat)) rfl rfl (by omega) ?_
      show tt Zi d 185 (124, [some (.inr (.inl 30)), some (.inl k_)], [], n, D, s, p, (uc c0 33 (ua (c0 33) (k_).toNat (c0 44 (k_).toNat)))) _
      refine tt_k 2 (S' := (105, [some (.inr (.inl 30)), some (.inl (k_ + 1))], [], n, D, s, p, (uc c0 33 (ua (c0 33) (k_).toNat (c0 44 (k_).toNat))))) rfl ?_
      exact ih (k_ + 1) (uc c0 33 (ua (c0 33) (k_).toNat (c0 44 (k_).toNat))) (by omega) (bC_st hC0 (show 0 ≤ (c0 44 (k_).toNat) ∧ (c0 44 (k_).toNat) ≤ 65535 by omega)) (frc_uc (by decide) hG0) (fun j hj => by show ua (c0 33) k_.toNat (c0 44 k_.toNat) j = c 44 j; exact if e : j = k_.toNat then (by rw [e, ua_eq, hG0 44 (by decide)]) else (by rw [ua_ne e]; exact i0 j (by omega))) (show (12288 - (k_ + 1)).toNat < m by omega)
set_option maxRecDepth 100000 in
set_option maxHeartbeats 4000000 in
theorem v_unpack {Zi : Nat → Option (Nat × (Nat → Int))} {d n : Nat} {D : Nat → Nat × Nat} {s : Nat → Int} {p : Nat → Nat} {c : Nat → Nat → Int} (hd : 11 ≤ d) (hS : bS s) (hC : bC D c) (A : TN) (K0 : MT) (hp0 : tpl A (s 3014) (c 34)) (hp1 : mrl K0 (c 40) (c 41) (c 42) (c 43)) : tt Zi d 185 (0, [some (.inr (.inl 30)), none], [], n, D, s, p, c) (fun R H => ∃ (s' : Nat → Int) (c' : Nat → Nat → Int) (r : Int), R = .inl (some (.inl r)) ∧ H = (n, D, s', p, c') ∧ bS s' ∧ bC D c' ∧ fr s s' [3000, 3007, 3008, 3009, 3010, 3011, 3017, 3018, 3019, 3020, 3021, 3022, 3023, 3024, 3025, 3026, 3035, 3036, 3037, 3038, 3039, 3041, 3042, 3043, 3044, 3045, 3046, 3049, 3050, 3051, 3052, 3053, 3054, 3057, 3058, 3059, 3060, 3061] ∧ frc c c' [33, 36, 37, 38, 39, 40, 41, 42, 43, 44, 45, 46] ∧ (0 ≤ r ∧ r ≤ 8) ∧ ((s' 3050 = 0 ∧ s' 3007 = 1 ∧ ∃ S, (rowR A K0) = (some S, S.2.2.2.2.2.1) ∧ rrP (s' 3008) (s' 3009) (s' 3010) (s' 3011) (c' 33) S ∧ mrl S.2.2.2.2.2.1 (c' 40) (c' 41) (c' 42) (c' 43)) ∨ (s' 3050 ≠ 0 ∧ (s' 3007 = s 3007 ∧ (s' 3008 = s 3008 ∧ s' 3009 = s 3009) ∧ (s' 3010 = s 3010 ∧ s' 3011 = s 3011)) ∧ c' 33 = c 33 ∧ rrN (rowR A K0) (c' 40) (c' 41) (c' 42) (c' 43)))) := by
  have b1 : 0 ≤ (s 3007) ∧ (s 3007) ≤ 1 := hS 3007
  have b2 : 0 ≤ (s 3008) ∧ (s 3008) ≤ 64 := hS 3008
  have b3 : 0 ≤ (s 3009) ∧ (s 3009) ≤ 64 := hS 3009
  have b4 : 0 ≤ (s 3010) ∧ (s 3010) ≤ 3 := hS 3010
  have b5 : 0 ≤ (s 3011) ∧ (s 3011) ≤ 255 := hS 3011
  refine tt_k 14 (S' := (22, [some (.inr (.inl 30)), none], [.inl 0, .inr (.inl 30)], n, D, (us (us (us (us s 3000 0) 3049 0) 3050 0) 3051 (-1)), p, c)) rfl ?_
  refine tt_k 6 (S' := (32, [some (.inr (.inl 30)), some (.inl 0)], [], n, D, (us (us (us (us (us (us s 3000 0) 3049 0) 3050 0) 3051 (-1)) 3059 0) 3061 0), p, c)) rfl ?_
  refine v_unpack_L32 (Zi := Zi) (D := D) (s := (us (us (us (us (us (us s 3000 0) 3049 0) 3050 0) 3051 (-1)) 3059 0) 3061 0)) (p := p) (c := c) hd (bS_us (bS_us (bS_us (bS_us (bS_us (bS_us hS (show 0 ≤ 0 ∧ 0 ≤ 2 by omega)) (show 0 ≤ 0 ∧ 0 ≤ 32769 by omega)) (show 0 ≤ 0 ∧ 0 ≤ 8 by omega)) (show -1 ≤ (-1) ∧ (-1) ≤ 32769 by omega)) (show 0 ≤ 0 ∧ 0 ≤ 3 by omega)) (show 0 ≤ 0 ∧ 0 ≤ 3 by omega)) hC    ?_ _ 0 c (by omega) hC frc_rf (fun j hj => absurd hj (by omega)) (Nat.lt_succ_self _)
  intro x6 c7 b8 hC7 g9 i10 hx11
  show tt Zi d 185 (50, [some (.inr (.inl 30)), some (.inl x6)], [], n, D, (us (us (us (us (us (us s 3000 0) 3049 0) 3050 0) 3051 (-1)) 3059 0) 3061 0), p, c7) _
  have hx12 : tpl A (s 3014) (c7 34) := by rw [g9 34 (by decide)]; exact hp0
  refine tt_k 1 (S' := (51, [some (.inr (.inl 30)), some (.inl x6)], [.inr (.inl 30)], n, D, (us (us (us (us (us (us s 3000 0) 3049 0) 3050 0) 3051 (-1)) 3059 0) 3061 0), p, c7)) rfl ?_
  have b13 : 0 ≤ (s 3014) ∧ (s 3014) ≤ 32768 := hS 3014
  refine tt_cl (by omega) rfl (v_readAll (Zi := Zi) (D := D) (s := (us (us (us (us (us (us s 3000 0) 3049 0) 3050 0) 3051 (-1)) 3059 0) 3061 0)) (p := p) (c := c7) (by omega) (bS_us (bS_us (bS_us (bS_us (bS_us (bS_us hS (show 0 ≤ 0 ∧ 0 ≤ 2 by omega)) (show 0 ≤ 0 ∧ 0 ≤ 32769 by omega)) (show 0 ≤ 0 ∧ 0 ≤ 8 by omega)) (show -1 ≤ (-1) ∧ (-1) ≤ 32769 by omega)) (show 0 ≤ 0 ∧ 0 ≤ 3 by omega)) (show 0 ≤ 0 ∧ 0 ≤ 3 by omega)) hC7 A K0 hx12 (show 0 = 0 by omega) rfl (by rw [show c7 40 = c 40 from (g9 40 (by decide)), show c7 41 = c 41 from (g9 41 (by decide)), show c7 42 = c 42 from (g9 42 (by decide)), show c7 43 = c 43 from (g9 43 (by decide))]; exact hp1) ⟨rfl, rfl⟩ (fun i hi => i10 i (by omega))) ?_
  rintro _ _ ⟨s14, c15, rfl, rfl, hS14, hC15, f16, g17, k18, k19⟩
  show tt Zi d 185 (54, [some (.inr (.inl 30)), some (.inl x6)], [], n, D, s14, p, c15) _
  replace k18 : (s14 3050) = 0 → ∃ S, (rowR A K0) = (some S, S.2.2.2.2.2.1) ∧ rrS A ((s14 3059)) ((s14 3061)) ((s14 3057)) ((s14 3058)) ((s14 3060)) ((c15 45)) ((c15 46)) ((c15 44)) S ∧ mrl S.2.2.2.2.2.1 ((c15 40)) ((c15 41)) ((c15 42)) ((c15 43)) ∧ ((s14 3059) ≠ 0 ∧ (s14 3061) = (s14 3059)) := k18
  replace k19 : (s14 3050) ≠ 0 → rrN (rowR A K0) ((c15 40)) ((c15 41)) ((c15 42)) ((c15 43)) := k19
  have b20 : 0 ≤ (s14 3050) ∧ (s14 3050) ≤ 8 := hS14 3050
  have b21 : 0 ≤ (s14 3059) ∧ (s14 3059) ≤ 3 := hS14 3059
  have b22 : 0 ≤ (s14 3061) ∧ (s14 3061) ≤ 3 := hS14 3061
  have b23 : 0 ≤ (s14 3057) ∧ (s14 3057) ≤ 65535 := hS14 3057
  have b24 : 0 ≤ (s14 3058) ∧ (s14 3058) ≤ 65535 := hS14 3058
  have b25 : 0 ≤ (s14 3060) ∧ (s14 3060) ≤ 255 := hS14 3060
  have e26 : s14 3007 = (s 3007) := (f16 3007 (by decide))
  have b27 : 0 ≤ (s14 3007) ∧ (s14 3007) ≤ 1 := hS14 3007
  have e28 : s14 3008 = (s 3008) := (f16 3008 (by decide))
  have b29 : 0 ≤ (s14 3008) ∧ (s14 3008) ≤ 64 := hS14 3008
  have e30 : s14 3009 = (s 3009) := (f16 3009 (by decide))
  have b31 : 0 ≤ (s14 3009) ∧ (s14 3009) ≤ 64 := hS14 3009
  have e32 : s14 3010 = (s 3010) := (f16 3010 (by decide))
  have b33 : 0 ≤ (s14 3010) ∧ (s14 3010) ≤ 3 := hS14 3010
  have e34 : s14 3011 = (s 3011) := (f16 3011 (by decide))
  have b35 : 0 ≤ (s14 3011) ∧ (s14 3011) ≤ 255 := hS14 3011
  have hx36 : tpl A (s14 3014) (c15 34) := by rw [f16 3014 (by decide), g17 34 (by decide)]; exact hx12
  by_cases hf1 : s14 3050 = 0
  · skip
    obtain ⟨S, u1, u2, u3, u4⟩ := k18 hf1
    have hdm := (rrS_d u2).2 u4.1
    clear k18 k19
    refine tt_k 2 (S' := (58, [some (.inr (.inl 30)), some (.inl x6)], [.inl (s14 3050)], n, D, s14, p, c15)) rfl ?_
    refine tz_le (x := (s14 3050)) rfl rfl (by omega) (fun h37 => ?_) (fun h37 => ?_)
    · show tt Zi d 185 (66, [some (.inr (.inl 30)), some (.inl x6)], [], n, D, s14, p, c15) _
      refine tt_k 14 (S' := (92, [some (.inr (.inl 30)), some (.inl x6)], [.inl (s14 3059), .inr (.inl 30)], n, D, (us (us (us s14 3007 1) 3008 (s14 3057)) 3009 (s14 3058)), p, c15)) rfl ?_
      refine tt_k 7 (S' := (105, [some (.inr (.inl 30)), some (.inl 0)], [], n, D, (us (us (us (us (us s14 3007 1) 3008 (s14 3057)) 3009 (s14 3058)) 3010 (s14 3059)) 3011 (s14 3060)), p, c15)) rfl ?_
      refine v_unpack_L105 (Zi := Zi) (D := D) (s := (us (us (us (us (us s14 3007 1) 3008 (s14 3057)) 3009 (s14 3058)) 3010 (s14 3059)) 3011 (s14 3060))) (p := p) (c := c15) hd (bS_us (bS_us (bS_us (bS_us (bS_us hS14 (show 0 ≤ 1 ∧ 1 ≤ 1 by omega)) (show 0 ≤ (s14 3057) ∧ (s14 3057) ≤ 64 by omega)) (show 0 ≤ (s14 3058) ∧ (s14 3058) ≤ 64 by omega)) (show 0 ≤ (s14 3059) ∧ (s14 3059) ≤ 3 by omega)) (show 0 ≤ (s14 3060) ∧ (s14 3060) ≤ 255 by omega)) hC15    ?_ _ 0 c15 (by omega) hC15 frc_rf (fun j hj => absurd hj (by omega)) (Nat.lt_succ_self _)
      intro x38 c39 b40 hC39 g41 i42 hx43
      show tt Zi d 185 (130, [some (.inr (.inl 30)), some (.inl x38)], [], n, D, (us (us (us (us (us s14 3007 1) 3008 (s14 3057)) 3009 (s14 3058)) 3010 (s14 3059)) 3011 (s14 3060)), p, c39) _
      have hx44 : tpl A (s14 3014) (c39 34) := by rw [g41 34 (by decide)]; exact hx36
      refine tt_k 1 (S' := (131, [some (.inr (.inl 30)), some (.inl x38)], [.inl 0], n, D, (us (us (us (us (us s14 3007 1) 3008 (s14 3057)) 3009 (s14 3058)) 3010 (s14 3059)) 3011 (s14 3060)), p, c39)) rfl ?_
      exact tt_rti rfl rfl ⟨(us (us (us (us (us s14 3007 1) 3008 (s14 3057)) 3009 (s14 3058)) 3010 (s14 3059)) 3011 (s14 3060)), c39, 0, rfl, rfl, (bS_us (bS_us (bS_us (bS_us (bS_us hS14 (show 0 ≤ 1 ∧ 1 ≤ 1 by omega)) (show 0 ≤ (s14 3057) ∧ (s14 3057) ≤ 64 by omega)) (show 0 ≤ (s14 3058) ∧ (s14 3058) ≤ 64 by omega)) (show 0 ≤ (s14 3059) ∧ (s14 3059) ≤ 3 by omega)) (show 0 ≤ (s14 3060) ∧ (s14 3060) ≤ 255 by omega)), hC39, (fr_us (by decide) (fr_us (by decide) (fr_us (by decide) (fr_us (by decide) (fr_us (by decide) (fr_tr (fr_us (by decide) (fr_us (by decide) (fr_us (by decide) (fr_us (by decide) (fr_us (by decide) (fr_us (by decide) fr_rf)))))) f16 (by decide))))))), (frc_tr (frc_tr (frc_tr frc_rf g9 (by decide)) g17 (by decide)) g41 (by decide)), by omega, by show ((s14 3050) = 0 ∧ 1 = 1 ∧ ∃ S, (rowR A K0) = (some S, S.2.2.2.2.2.1) ∧ rrP ((s14 3057)) ((s14 3058)) ((s14 3059)) ((s14 3060)) ((c39 33)) S ∧ mrl S.2.2.2.2.2.1 ((c39 40)) ((c39 41)) ((c39 42)) ((c39 43))) ∨ ((s14 3050) ≠ 0 ∧ (1 = s 3007 ∧ ((s14 3057) = s 3008 ∧ (s14 3058) = s 3009) ∧ ((s14 3059) = s 3010 ∧ (s14 3060) = s 3011)) ∧ (c39 33) = c 33 ∧ rrN (rowR A K0) ((c39 40)) ((c39 41)) ((c39 42)) ((c39 43))); exact Or.inl ⟨by omega, rfl, S, u1, rrP_of (f := c39 33) u2 u4 (fun j hj => i42 j (by omega)), (by rw [show c39 40 = c15 40 from g41 40 (by decide), show c39 41 = c15 41 from g41 41 (by decide), show c39 42 = c15 42 from g41 42 (by decide), show c39 43 = c15 43 from g41 43 (by decide)]; exact u3)⟩⟩
    · exfalso; omega
  · skip
    have hno := k19 hf1
    clear k18 k19
    refine tt_k 2 (S' := (58, [some (.inr (.inl 30)), some (.inl x6)], [.inl (s14 3050)], n, D, s14, p, c15)) rfl ?_
    refine tz_le (x := (s14 3050)) rfl rfl (by omega) (fun h45 => ?_) (fun h45 => ?_)
    · exfalso; omega
    · show tt Zi d 185 (61, [some (.inr (.inl 30)), some (.inl x6)], [], n, D, s14, p, c15) _
      refine tt_k 2 (S' := (65, [some (.inr (.inl 30)), some (.inl x6)], [.inl (s14 3050)], n, D, s14, p, c15)) rfl ?_
      exact tt_rti rfl rfl ⟨s14, c15, (s14 3050), rfl, rfl, hS14, hC15, (fr_tr (fr_us (by decide) (fr_us (by decide) (fr_us (by decide) (fr_us (by decide) (fr_us (by decide) (fr_us (by decide) fr_rf)))))) f16 (by decide)), (frc_tr (frc_tr frc_rf g9 (by decide)) g17 (by decide)), by omega, by show ((s14 3050) = 0 ∧ (s14 3007) = 1 ∧ ∃ S, (rowR A K0) = (some S, S.2.2.2.2.2.1) ∧ rrP ((s14 3008)) ((s14 3009)) ((s14 3010)) ((s14 3011)) ((c15 33)) S ∧ mrl S.2.2.2.2.2.1 ((c15 40)) ((c15 41)) ((c15 42)) ((c15 43))) ∨ ((s14 3050) ≠ 0 ∧ ((s14 3007) = s 3007 ∧ ((s14 3008) = s 3008 ∧ (s14 3009) = s 3009) ∧ ((s14 3010) = s 3010 ∧ (s14 3011) = s 3011)) ∧ (c15 33) = c 33 ∧ rrN (rowR A K0) ((c15 40)) ((c15 41)) ((c15 42)) ((c15 43))); exact Or.inr ⟨by omega, ⟨by omega, ⟨by omega, by omega⟩, ⟨by omega, by omega⟩⟩, ((g17 33 (by decide)).trans (g9 33 (by decide))), hno⟩⟩
