/-! the reference reads a section, exactly -/
/-- the reference's reader stands so -/
def rrS (A : TN) (pl sc w h dp : Int) (fn ft f4 : Nat → Int) (S : SR) : Prop := (∀ i : Nat, i < 5 → ft i = S.2.2.2.2.1 i) ∧ S.2.1.2.2.1 = pl ∧ S.2.2.1 = sc ∧ (0 ≤ sc ∧ sc ≤ pl) ∧ (pl ≠ 0 → S.2.1 = (w, h, pl, dp) ∧ ((1 ≤ w ∧ w ≤ 64) ∧ (1 ≤ h ∧ h ≤ 64) ∧ (pl = 1 ∨ pl = 3) ∧ (2 ≤ dp ∧ dp ≤ 16)) ∧ (∀ k : Int, 0 ≤ k → k < pl → fn k.toNat = qN A S.2.2.2.1 k) ∧ ∀ q : Int, 0 ≤ q → q < sc → trl (S.2.2.2.2.2.2 q) (4096 * q) w 0 h f4)
/-- a section that can't be -/
def seN (A : TN) (m a : Int) (S : SR) : Prop := sec A m a S = none ∨ ∃ S2, sec A m a S = some S2 ∧ A.2 ≤ S2.1 ∧ S2.2.2.2.2.2.1 = S.2.2.2.2.2.1
section RRS
variable {A : TN} {pl sc w h dp a m : Int} {fn ft f4 f42 : Nat → Int} {S : SR} {X : XR}
theorem secK_z {n : Nat} (hm : m ≠ 217) (hs : seN A m a S) : secK A (secs A n) m a S = (none, S.2.2.2.2.2.1) := by
  rcases hs with h1 | ⟨S2, h1, h2, h3⟩
  · exact secK_n hm h1
  · rw [secK_s hm h1, secs_n (rdMk_e h2), h3]
theorem sec_short (h0 : A.2 ≤ a + 1) : sec A m a S = none := by
  unfold sec
  by_cases m1 : m = 247
  · rw [if_pos m1, cif_neg (fun q => by obtain ⟨o1, o2, o3, o4, o5, o6, o7⟩ := q.2; omega)]
  · rw [if_neg m1]
    by_cases m2 : m = 248
    · rw [if_pos m2, cif_neg (fun q => by obtain ⟨o1, o2, o3⟩ := q; omega)]
    · rw [if_neg m2]
      by_cases m3 : m = 218
      · rw [if_pos m3, cif_neg (fun q => by obtain ⟨o1, o2⟩ := q.2.1; omega)]
      · rw [if_neg m3, cif_neg (fun q => by obtain ⟨o1, o2⟩ := q.2; omega)]
theorem sec_len (h0 : gT A a < 2 ∨ (m = 248 ∧ gT A a ≠ 13) ∨ (m = 218 ∧ gT A a ≠ 8)) : sec A m a S = none := by
  unfold sec
  by_cases m1 : m = 247
  · rw [if_pos m1, cif_neg (fun q => by obtain ⟨o1, o2, o3, o4, o5, o6, o7⟩ := q.2; omega)]
  · rw [if_neg m1]
    by_cases m2 : m = 248
    · rw [if_pos m2, cif_neg (fun q => by obtain ⟨o1, o2, o3⟩ := q; omega)]
    · rw [if_neg m2]
      by_cases m3 : m = 218
      · rw [if_pos m3, cif_neg (fun q => by obtain ⟨o1, o2, _⟩ := q.2.1; omega)]
      · rw [if_neg m3, cif_neg (fun q => by obtain ⟨o1, o2⟩ := q.2; omega)]
theorem rrS_d (h0 : rrS A pl sc w h dp fn ft f4 S) : (0 ≤ sc ∧ sc ≤ pl) ∧ (pl ≠ 0 → (1 ≤ w ∧ w ≤ 64) ∧ (1 ≤ h ∧ h ≤ 64) ∧ (pl = 1 ∨ pl = 3) ∧ (2 ≤ dp ∧ dp ≤ 16)) := ⟨h0.2.2.2.1, fun hp => (h0.2.2.2.2 hp).2.1⟩
theorem rrS_f {pl2 w2 h2 dp2 : Int} {fn2 ft2 : Nat → Int} (h0 : rrS A pl sc w h dp fn ft f4 S) (hp : pl = 0) (ok : okF A a) (e : (w2 = qW A a ∧ h2 = qH A a) ∧ (pl2 = qP A a ∧ dp2 = qD A a)) (hn : ∀ j : Int, 0 ≤ j → j < qP A a → fn2 j.toNat = qN A a j) (ht : ft2 = ft) : sec A 247 a S = some (a + 8 + 3 * qP A a, (qW A a, qH A a, qP A a, qD A a), S.2.2.1, a, S.2.2.2.2) ∧ rrS A pl2 sc w2 h2 dp2 fn2 ft2 f4 (a + 8 + 3 * qP A a, (qW A a, qH A a, qP A a, qD A a), S.2.2.1, a, S.2.2.2.2) := by
  obtain ⟨⟨e1, e2⟩, e3, e4⟩ := e
  subst e1 e2 e3 e4 ht hp
  obtain ⟨r1, r2, r3, r4, r5⟩ := h0
  refine ⟨sec_f r2 ok, r1, rfl, r3, ?_, fun _ => ⟨rfl, ?_, hn, fun q q0 q1 => absurd q1 (by omega)⟩⟩
  · obtain ⟨o1, o2, o3, o4, o5, o6, o7⟩ := ok
    omega
  · obtain ⟨o1, o2, o3, o4, o5, o6, o7⟩ := ok
    exact ⟨o5, o4, o6, o3⟩
theorem rrS_m {ft2 : Nat → Int} (h0 : rrS A pl sc w h dp fn ft f4 S) (ok : okM A a) (ht : ∀ i : Nat, i < 5 → ft2 i = qM A a i) : sec A 248 a S = some (a + 13, S.2.1, S.2.2.1, S.2.2.2.1, qM A a, S.2.2.2.2.2) ∧ rrS A pl sc w h dp fn ft2 f4 (a + 13, S.2.1, S.2.2.1, S.2.2.2.1, qM A a, S.2.2.2.2.2) := ⟨sec_m ok, ht, h0.2⟩
theorem rrS_z (h0 : rrS A pl sc w h dp fn ft f4 S) (hp : pl ≠ 0) {n : Int} : ZS S.2.2.2.2.1 S.2.1.2.2.2 n = ZM (ft 0) (ft 1) (ft 2) (ft 3) (ft 4) dp n ∧ VS S.2.2.2.2.1 S.2.1.2.2.2 n = VM (ft 0) (ft 1) (ft 2) (ft 3) (ft 4) dp n := by
  obtain ⟨r1, r2, r3, r4, r5⟩ := h0
  have e : S.2.1.2.2.2 = dp := by rw [(r5 hp).1]
  unfold ZS VS
  rw [e, r1 0 (by decide), r1 1 (by decide), r1 2 (by decide), r1 3 (by decide), r1 4 (by decide)]
  exact ⟨rfl, rfl⟩
theorem plS_r (h0 : rrS A pl sc w h dp fn ft f4 S) (hp : pl ≠ 0) : plS A S.2.2.2.2.1 S.2.1.1 S.2.1.2.1 S.2.1.2.2.2 a = plQ A (ZM (ft 0) (ft 1) (ft 2) (ft 3) (ft 4) dp (gB A (a + 5))) w h 5000 0 0 ((a + 8, 0, 0), mB (ZM (ft 0) (ft 1) (ft 2) (ft 3) (ft 4) dp (gB A (a + 5)) 3024), 0, fun _ => 0) := by
  obtain ⟨z1, z2⟩ := rrS_z h0 hp (n := gB A (a + 5))
  have z3 := (h0.2.2.2.2 hp).1
  unfold plS
  rw [z1, show S.2.1.1 = w by rw [z3], show S.2.1.2.1 = h by rw [z3]]
theorem rrS_ok (h0 : rrS A pl sc w h dp fn ft f4 S) (hs : sc < pl) : (S.2.2.1 < S.2.1.2.2.1 ∧ okS A a (qN A S.2.2.2.1 S.2.2.1) ∧ VS S.2.2.2.2.1 S.2.1.2.2.2 (gB A (a + 5))) ↔ (okS A a (fn sc.toNat) ∧ VM (ft 0) (ft 1) (ft 2) (ft 3) (ft 4) dp (gB A (a + 5))) := by
  have hr := h0.2.2.2.1
  have hp : pl ≠ 0 := by omega
  obtain ⟨z1, z2⟩ := rrS_z h0 hp (n := gB A (a + 5))
  obtain ⟨r1, r2, r3, r4, r5⟩ := h0
  have hn := (r5 hp).2.2.1 sc r4.1 hs
  rw [z2, r3, r2, hn]
  exact ⟨fun q => q.2, fun q => ⟨hs, q⟩⟩
theorem rrS_sx (h0 : rrS A pl sc w h dp fn ft f4 S) (hs : sc < pl) (hx : ¬ (okS A a (fn sc.toNat) ∧ VM (ft 0) (ft 1) (ft 2) (ft 3) (ft 4) dp (gB A (a + 5))) ∨ plQ A (ZM (ft 0) (ft 1) (ft 2) (ft 3) (ft 4) dp (gB A (a + 5))) w h 5000 0 0 ((a + 8, 0, 0), mB (ZM (ft 0) (ft 1) (ft 2) (ft 3) (ft 4) dp (gB A (a + 5)) 3024), 0, fun _ => 0) = none) : sec A 218 a S = none := by
  rcases hx with hx | hx
  · exact sec_sn (fun q => hx ((rrS_ok h0 hs).mp q))
  · have hr := h0.2.2.2.1
    exact sec_sx (by rw [plS_r h0 (by omega)]; exact hx)
theorem rrS_s (h0 : rrS A pl sc w h dp fn ft f4 S) (hs : sc < pl) (ok : okS A a (fn sc.toNat) ∧ VM (ft 0) (ft 1) (ft 2) (ft 3) (ft 4) dp (gB A (a + 5))) (hX : plQ A (ZM (ft 0) (ft 1) (ft 2) (ft 3) (ft 4) dp (gB A (a + 5))) w h 5000 0 0 ((a + 8, 0, 0), mB (ZM (ft 0) (ft 1) (ft 2) (ft 3) (ft 4) dp (gB A (a + 5)) 3024), 0, fun _ => 0) = some X) (ht : trl X.2.2.2 (4096 * sc) w 0 h f42) (ho : ofr (4096 * sc) f4 f42) : sec A 218 a S = some (scN S X) ∧ rrS A pl (sc + 1) w h dp fn ft f42 (scN S X) := by
  have hr := h0.2.2.2.1
  have hp : pl ≠ 0 := by omega
  refine ⟨sec_s ((rrS_ok h0 hs).mpr ok) (by rw [plS_r h0 hp]; exact hX), ?_⟩
  obtain ⟨r1, r2, r3, r4, r5⟩ := h0
  obtain ⟨q1, q2, q3, q4⟩ := r5 hp
  refine ⟨r1, r2, by show S.2.2.1 + 1 = sc + 1; omega, by omega, fun _ => ⟨q1, q2, q3, fun q h1 h2 => ?_⟩⟩
  show trl (if q = S.2.2.1 then X.2.2.2 else S.2.2.2.2.2.2 q) (4096 * q) w 0 h f42
  by_cases e : q = S.2.2.1
  · rw [if_pos e, e, r3]
    exact ht
  · rw [if_neg e]
    intro xx yy a1 a2 a3 a4
    rw [ho _ (by omega)]
    exact q4 q h1 (by omega) xx yy a1 a2 a3 a4
end RRS
set_option maxRecDepth 100000 in
set_option maxHeartbeats 4000000 in
theorem x_measCR_L329 {Zi : Nat → Option (Nat × (Nat → Int))} {d n : Nat} {D : Nat → Nat × Nat} {s : Nat → Int} {p : Nat → Nat} {c : Nat → Nat → Int} {o_1 : Option mi_V} {o_2 : Option mi_V} {o_3 : Option mi_V} {o_4 : Option mi_V} {o_5 : Option mi_V} {o_6 : Option mi_V} {Q : mi_Rs → mi_H → Prop} (hd : 2 ≤ d) (hS : bS s) (hC : bC D c) (hq0 : s 3024 ≤ 65537)
  (hK : ∀ (s0 : Nat → Int) (hS0 : bS s0) (hF0 : fr s s0 [3025]) (i0 : s0 3025 = 0 ∨ 2 ^ (s0 3025 - 1).toNat < s 3024) (i1 : 0 ≤ s0 3025 ∧ s0 3025 ≤ 17), (s 3024 ≤ 2 ^ (s0 3025).toNat) → tt Zi d 144 (355, [some (.inr (.inl 30)), o_1, o_2, o_3, o_4, o_5, o_6], [], n, D, s0, p, c) Q) :
  ∀ (m : Nat) (s0 : Nat → Int) (hS0 : bS s0) (hF0 : fr s s0 [3025]) (i0 : s0 3025 = 0 ∨ 2 ^ (s0 3025 - 1).toNat < s 3024) (i1 : 0 ≤ s0 3025 ∧ s0 3025 ≤ 17), (18 - s0 3025).toNat < m → tt Zi d 144 (329, [some (.inr (.inl 30)), o_1, o_2, o_3, o_4, o_5, o_6], [], n, D, s0, p, c) Q := by
  intro m
  induction m with
  | zero => intro s0 hS0 hF0 i0 i1 hm; exact absurd hm (by omega)
  | succ m ih =>
    intro s0 hS0 hF0 i0 i1 hm
    have e1 : s0 3017 = s 3017 := hF0 3017 (by decide)
    have b2 : 0 ≤ (s0 3017) ∧ (s0 3017) ≤ 65535 := hS0 3017
    have b3 : 0 ≤ (s 3017) ∧ (s 3017) ≤ 65535 := hS 3017
    have e4 : s0 3018 = s 3018 := hF0 3018 (by decide)
    have b5 : -2147483648 ≤ (s0 3018) ∧ (s0 3018) ≤ 2147483647 := hS0 3018
    have b6 : -2147483648 ≤ (s 3018) ∧ (s 3018) ≤ 2147483647 := hS 3018
    have e7 : s0 3019 = s 3019 := hF0 3019 (by decide)
    have b8 : -2147483648 ≤ (s0 3019) ∧ (s0 3019) ≤ 2147483647 := hS0 3019
    have b9 : -2147483648 ≤ (s 3019) ∧ (s 3019) ≤ 2147483647 := hS 3019
    have e10 : s0 3020 = s 3020 := hF0 3020 (by decide)
    have b11 : -2147483648 ≤ (s0 3020) ∧ (s0 3020) ≤ 2147483647 := hS0 3020
    have b12 : -2147483648 ≤ (s 3020) ∧ (s 3020) ≤ 2147483647 := hS 3020
    have e13 : s0 3021 = s 3021 := hF0 3021 (by decide)
    have b14 : -2147483648 ≤ (s0 3021) ∧ (s0 3021) ≤ 2147483647 := hS0 3021
    have b15 : -2147483648 ≤ (s 3021) ∧ (s 3021) ≤ 2147483647 := hS 3021
    have e16 : s0 3022 = s 3022 := hF0 3022 (by decide)
    have b17 : 0 ≤ (s0 3022) ∧ (s0 3022) ≤ 65535 := hS0 3022
    have b18 : 0 ≤ (s 3022) ∧ (s 3022) ≤ 65535 := hS 3022
    have e19 : s0 3023 = s 3023 := hF0 3023 (by decide)
    have b20 : -2147483648 ≤ (s0 3023) ∧ (s0 3023) ≤ 2147483647 := hS0 3023
    have b21 : -2147483648 ≤ (s 3023) ∧ (s 3023) ≤ 2147483647 := hS 3023
    have e22 : s0 3024 = s 3024 := hF0 3024 (by decide)
    have b23 : -2147483648 ≤ (s0 3024) ∧ (s0 3024) ≤ 2147483647 := hS0 3024
    have b24 : -2147483648 ≤ (s 3024) ∧ (s 3024) ≤ 2147483647 := hS 3024
    refine tt_k 6 (S' := (339, [some (.inr (.inl 30)), o_1, o_2, o_3, o_4, o_5, o_6], [.inl (s0 3024), .inl (mi_shl 1 (s0 3025))], n, D, s0, p, c)) rfl ?_
    have b25 : 0 ≤ (s0 3025) ∧ (s0 3025) ≤ 31 := hS0 3025
    have e26 : 1 ≤ (mi_shl 1 (s0 3025)) ∧ (mi_shl 1 (s0 3025)) ≤ 131072 := mi_shl1b 0 17 (by omega) (by omega) (by decide)
    refine tb_ge (x := (mi_shl 1 (s0 3025))) (y := (s0 3024)) rfl rfl (by omega) (fun h27 => ?_) (fun h27 => ?_)
    · show tt Zi d 144 (355, [some (.inr (.inl 30)), o_1, o_2, o_3, o_4, o_5, o_6], [], n, D, s0, p, c) _
      exact hK s0 hS0 hF0 i0 i1 (by have hsh := mi_shl1i (k := s0 3025) (by omega) (by omega); omega)
    · show tt Zi d 144 (342, [some (.inr (.inl 30)), o_1, o_2, o_3, o_4, o_5, o_6], [], n, D, s0, p, c) _
      refine tt_k 7 (S' := (329, [some (.inr (.inl 30)), o_1, o_2, o_3, o_4, o_5, o_6], [], n, D, (us s0 3025 ((s0 3025) + 1)), p, c)) rfl ?_
      have hsh := mi_shl1i (k := s0 3025) (by omega) (by omega)
      have hq16 := pw_17 (q := s0 3025) (by omega) (by omega)
      exact ih  (us s0 3025 ((s0 3025) + 1)) (bS_us hS0 (show 0 ≤ ((s0 3025) + 1) ∧ ((s0 3025) + 1) ≤ 31 by omega)) (fr_us (by decide) hF0) (Or.inr (by show 2 ^ (s0 3025 + 1 - 1).toNat < _; rw [Int.add_sub_cancel]; omega)) (show 0 ≤ ((s0 3025) + 1) ∧ ((s0 3025) + 1) ≤ 17 by omega) (show (18 - ((s0 3025) + 1)).toNat < m by omega)

set_option maxRecDepth 100000 in
set_option maxHeartbeats 4000000 in
theorem x_measCR_L358 {Zi : Nat → Option (Nat × (Nat → Int))} {d n : Nat} {D : Nat → Nat × Nat} {s : Nat → Int} {p : Nat → Nat} {c : Nat → Nat → Int} {o_1 : Option mi_V} {o_2 : Option mi_V} {o_3 : Option mi_V} {o_4 : Option mi_V} {o_6 : Option mi_V} {Q : mi_Rs → mi_H → Prop} (hd : 2 ≤ d) (hS : bS s) (hC : bC D c) (hq0 : s 3017 ≤ 65535)
  (hK : ∀ (b : Int) (b_b : 2 ≤ b ∧ b ≤ 16) (i0 : b = 2 ∨ 2 ^ (b - 1).toNat ≤ s 3017), (s 3017 < 2 ^ b.toNat) → tt Zi d 144 (375, [some (.inr (.inl 30)), o_1, o_2, o_3, o_4, some (.inl b), o_6], [], n, D, s, p, c) Q) :
  ∀ (m : Nat) (b : Int) (b_b : 2 ≤ b ∧ b ≤ 16) (i0 : b = 2 ∨ 2 ^ (b - 1).toNat ≤ s 3017), (16 - b).toNat < m → tt Zi d 144 (358, [some (.inr (.inl 30)), o_1, o_2, o_3, o_4, some (.inl b), o_6], [], n, D, s, p, c) Q := by
  intro m
  induction m with
  | zero => intro b b_b i0 hm; exact absurd hm (by omega)
  | succ m ih =>
    intro b b_b i0 hm
    refine tt_k 5 (S' := (366, [some (.inr (.inl 30)), o_1, o_2, o_3, o_4, some (.inl b), o_6], [.inl (s 3017), .inl (mi_shl 1 b)], n, D, s, p, c)) rfl ?_
    have e1 : 4 ≤ (mi_shl 1 b) ∧ (mi_shl 1 b) ≤ 65536 := mi_shl1b 2 16 (by omega) (by omega) (by decide)
    have b2 : 0 ≤ (s 3017) ∧ (s 3017) ≤ 65535 := hS 3017
    refine tb_gt (x := (mi_shl 1 b)) (y := (s 3017)) rfl rfl (by omega) (fun h3 => ?_) (fun h3 => ?_)
    · show tt Zi d 144 (375, [some (.inr (.inl 30)), o_1, o_2, o_3, o_4, some (.inl b), o_6], [], n, D, s, p, c) _
      exact hK b (by omega) i0 (by have hsh := mi_shl1i (k := b) (by omega) (by omega); omega)
    · show tt Zi d 144 (369, [some (.inr (.inl 30)), o_1, o_2, o_3, o_4, some (.inl b), o_6], [], n, D, s, p, c) _
      refine tt_k 2 (S' := (358, [some (.inr (.inl 30)), o_1, o_2, o_3, o_4, some (.inl (b + 1)), o_6], [], n, D, s, p, c)) rfl ?_
      have hsh := mi_shl1i (k := b) (by omega) (by omega)
      have hb16 := pw_17 (q := b) (by omega) (by omega)
      have hb15 : b ≤ 15 := by have e : b = 16 → (2 : Int) ^ b.toNat = 65536 := (by intro hq; rw [hq]; decide); omega
      exact ih (b + 1)  (by omega) (Or.inr (by rw [Int.add_sub_cancel]; omega)) (show (16 - (b + 1)).toNat < m by omega)
set_option maxRecDepth 100000 in
set_option maxHeartbeats 4000000 in
theorem x_measCR {Zi : Nat → Option (Nat × (Nat → Int))} {d n : Nat} {D : Nat → Nat × Nat} {s : Nat → Int} {p : Nat → Nat} {c : Nat → Nat → Int} (hd : 2 ≤ d) (hS : bS s) (hC : bC D c) (bits : Int) (nr : Int) (top : Int) (f_ : Int) (b_bits : 2 ≤ bits ∧ bits ≤ 16) (b_nr : 0 ≤ nr ∧ nr ≤ 255) (b_top : 3 ≤ top ∧ top ≤ 65535) (hp0 : s 3018 = nr) (hp1 : s 3017 = (zMo (c 46 0) bits)) (hp2 : s 3019 = zPt 3 2 3 (zMo (c 46 0) bits) nr) (hp3 : s 3020 = zPt 7 3 5 (zMo (c 46 0) bits) nr) (hp4 : s 3021 = zPt 21 4 7 (zMo (c 46 0) bits) nr) (hp5 : s 3022 = zHa (c 46 4)) (hp6 : top = 2 ^ bits.toNat - 1) : tt Zi d 144 (204, [some (.inr (.inl 30)), some (.inr (.inl 46)), some (.inl bits), some (.inl nr), some (.inl top), some (.inl f_), none], [], n, D, s, p, c) (fun R H => ∃ (s' : Nat → Int) (r : Int), R = .inl (some (.inl r)) ∧ H = (n, D, s', p, c) ∧ bS s' ∧ fr s s' [3017, 3018, 3019, 3020, 3021, 3022, 3023, 3024, 3025, 3026] ∧ (0 ≤ r ∧ r ≤ 1) ∧ ((r = 1 ∧ VM (c 46 0) (c 46 1) (c 46 2) (c 46 3) (c 46 4) bits nr ∧ zq (ZM (c 46 0) (c 46 1) (c 46 2) (c 46 3) (c 46 4) bits nr) (s' 3017) (s' 3018) (s' 3019) (s' 3020) (s' 3021) (s' 3022) (s' 3023) (s' 3024) (s' 3025) (s' 3026)) ∨ (r = 0 ∧ ¬ VM (c 46 0) (c 46 1) (c 46 2) (c 46 3) (c 46 4) bits nr))) := by
  have r0_ : c 46 (0 : Int).toNat = c 46 0 := rfl
  have r1_ : c 46 (1 : Int).toNat = c 46 1 := rfl
  have r2_ : c 46 (2 : Int).toNat = c 46 2 := rfl
  have r3_ : c 46 (3 : Int).toNat = c 46 3 := rfl
  have r4_ : c 46 (4 : Int).toNat = c 46 4 := rfl
  have hmb := zMo_bd (f0 := c 46 0) (b := bits) (hC 46 0) (by omega)
  have hrp := rg_pos (mo := s 3017) (n := s 3018) (by omega) (by omega)
  unfold zRg at hrp
  have hbd := pw_bits (b := bits) (by omega)
  refine tt_k 3 (S' := (207, [some (.inr (.inl 30)), some (.inr (.inl 46)), some (.inl bits), some (.inl nr), some (.inl top), some (.inl f_), none], [.inl 1, .inr (.inl 46), .inr (.inl 30)], n, D, s, p, c)) rfl ?_
  refine tt_ildv (i := 1) (v := (c 46 (1 : Int).toNat)) rfl rfl (by omega) rfl ?_
  show tt Zi d 144 (208, [some (.inr (.inl 30)), some (.inr (.inl 46)), some (.inl bits), some (.inl nr), some (.inl top), some (.inl f_), none], [.inl (c 46 (1 : Int).toNat), .inr (.inl 30)], n, D, s, p, c) _
  have b1 : 0 ≤ (c 46 (1 : Int).toNat) ∧ (c 46 (1 : Int).toNat) ≤ 65535 := hC 46 _
  have K3 : ∀ (j2 : Int) , (-2147483648 ≤ j2 ∧ j2 ≤ 2147483647) → (j2 = (zT1 (c 46 1) (zMo (c 46 0) bits) nr)) → (True) → tt Zi d 144 (231, [some (.inr (.inl 30)), some (.inr (.inl 46)), some (.inl bits), some (.inl nr), some (.inl top), some (.inl f_), none], [.inl j2, .inr (.inl 30)], n, D, s, p, c) (fun R H => ∃ (s' : Nat → Int) (r : Int), R = .inl (some (.inl r)) ∧ H = (n, D, s', p, c) ∧ bS s' ∧ fr s s' [3017, 3018, 3019, 3020, 3021, 3022, 3023, 3024, 3025, 3026] ∧ (0 ≤ r ∧ r ≤ 1) ∧ ((r = 1 ∧ VM (c 46 0) (c 46 1) (c 46 2) (c 46 3) (c 46 4) bits nr ∧ zq (ZM (c 46 0) (c 46 1) (c 46 2) (c 46 3) (c 46 4) bits nr) (s' 3017) (s' 3018) (s' 3019) (s' 3020) (s' 3021) (s' 3022) (s' 3023) (s' 3024) (s' 3025) (s' 3026)) ∨ (r = 0 ∧ ¬ VM (c 46 0) (c 46 1) (c 46 2) (c 46 3) (c 46 4) bits nr))) := by
    intro j2 b5 b6 hj4
    refine tt_k 4 (S' := (237, [some (.inr (.inl 30)), some (.inr (.inl 46)), some (.inl bits), some (.inl nr), some (.inl top), some (.inl f_), none], [.inl 2, .inr (.inl 46), .inr (.inl 30)], n, D, (us s 3019 j2), p, c)) rfl ?_
    refine tt_ildv (i := 2) (v := (c 46 (2 : Int).toNat)) rfl rfl (by omega) rfl ?_
    show tt Zi d 144 (238, [some (.inr (.inl 30)), some (.inr (.inl 46)), some (.inl bits), some (.inl nr), some (.inl top), some (.inl f_), none], [.inl (c 46 (2 : Int).toNat), .inr (.inl 30)], n, D, (us s 3019 j2), p, c) _
    have b7 : 0 ≤ (c 46 (2 : Int).toNat) ∧ (c 46 (2 : Int).toNat) ≤ 65535 := hC 46 _
    have K9 : ∀ (j8 : Int) , (-2147483648 ≤ j8 ∧ j8 ≤ 2147483647) → (j8 = (zT2 (c 46 2) (zT1 (c 46 1) (zMo (c 46 0) bits) nr) (zMo (c 46 0) bits) nr)) → (True) → tt Zi d 144 (259, [some (.inr (.inl 30)), some (.inr (.inl 46)), some (.inl bits), some (.inl nr), some (.inl top), some (.inl f_), none], [.inl j8, .inr (.inl 30)], n, D, (us s 3019 j2), p, c) (fun R H => ∃ (s' : Nat → Int) (r : Int), R = .inl (some (.inl r)) ∧ H = (n, D, s', p, c) ∧ bS s' ∧ fr s s' [3017, 3018, 3019, 3020, 3021, 3022, 3023, 3024, 3025, 3026] ∧ (0 ≤ r ∧ r ≤ 1) ∧ ((r = 1 ∧ VM (c 46 0) (c 46 1) (c 46 2) (c 46 3) (c 46 4) bits nr ∧ zq (ZM (c 46 0) (c 46 1) (c 46 2) (c 46 3) (c 46 4) bits nr) (s' 3017) (s' 3018) (s' 3019) (s' 3020) (s' 3021) (s' 3022) (s' 3023) (s' 3024) (s' 3025) (s' 3026)) ∨ (r = 0 ∧ ¬ VM (c 46 0) (c 46 1) (c 46 2) (c 46 3) (c 46 4) bits nr))) := by
      intro j8 b11 b12 hj10
      refine tt_k 4 (S' := (265, [some (.inr (.inl 30)), some (.inr (.inl 46)), some (.inl bits), some (.inl nr), some (.inl top), some (.inl f_), none], [.inl 3, .inr (.inl 46), .inr (.inl 30)], n, D, (us (us s 3019 j2) 3020 j8), p, c)) rfl ?_
      refine tt_ildv (i := 3) (v := (c 46 (3 : Int).toNat)) rfl rfl (by omega) rfl ?_
      show tt Zi d 144 (266, [some (.inr (.inl 30)), some (.inr (.inl 46)), some (.inl bits), some (.inl nr), some (.inl top), some (.inl f_), none], [.inl (c 46 (3 : Int).toNat), .inr (.inl 30)], n, D, (us (us s 3019 j2) 3020 j8), p, c) _
      have b13 : 0 ≤ (c 46 (3 : Int).toNat) ∧ (c 46 (3 : Int).toNat) ≤ 65535 := hC 46 _
      have K15 : ∀ (j14 : Int) , (-2147483648 ≤ j14 ∧ j14 ≤ 2147483647) → (j14 = (zT3 (c 46 3) (zT2 (c 46 2) (zT1 (c 46 1) (zMo (c 46 0) bits) nr) (zMo (c 46 0) bits) nr) (zMo (c 46 0) bits) nr)) → (True) → tt Zi d 144 (287, [some (.inr (.inl 30)), some (.inr (.inl 46)), some (.inl bits), some (.inl nr), some (.inl top), some (.inl f_), none], [.inl j14, .inr (.inl 30)], n, D, (us (us s 3019 j2) 3020 j8), p, c) (fun R H => ∃ (s' : Nat → Int) (r : Int), R = .inl (some (.inl r)) ∧ H = (n, D, s', p, c) ∧ bS s' ∧ fr s s' [3017, 3018, 3019, 3020, 3021, 3022, 3023, 3024, 3025, 3026] ∧ (0 ≤ r ∧ r ≤ 1) ∧ ((r = 1 ∧ VM (c 46 0) (c 46 1) (c 46 2) (c 46 3) (c 46 4) bits nr ∧ zq (ZM (c 46 0) (c 46 1) (c 46 2) (c 46 3) (c 46 4) bits nr) (s' 3017) (s' 3018) (s' 3019) (s' 3020) (s' 3021) (s' 3022) (s' 3023) (s' 3024) (s' 3025) (s' 3026)) ∨ (r = 0 ∧ ¬ VM (c 46 0) (c 46 1) (c 46 2) (c 46 3) (c 46 4) bits nr))) := by
        intro j14 b17 b18 hj16
        refine tt_k 14 (S' := (309, [some (.inr (.inl 30)), some (.inr (.inl 46)), some (.inl bits), some (.inl nr), some (.inl top), some (.inl f_), none], [.inr (.inl 30), .inl 2, .inl (s 3017), .inr (.inl 30)], n, D, (us (us (us (us s 3019 j2) 3020 j8) 3021 j14) 3023 (((2 * (s 3018)) + 1))), p, c)) rfl ?_
        refine tt_k 5 (S' := (318, [some (.inr (.inl 30)), some (.inr (.inl 46)), some (.inl bits), some (.inl nr), some (.inl top), some (.inl f_), none], [.inl (((2 * (s 3018)) + 1)), .inl (((s 3017) + (2 * (s 3018)))), .inr (.inl 30)], n, D, (us (us (us (us s 3019 j2) 3020 j8) 3021 j14) 3023 (((2 * (s 3018)) + 1))), p, c)) rfl ?_
        have b19 : 0 ≤ (s 3017) ∧ (s 3017) ≤ 65535 := hS 3017
        have b20 : -2147483648 ≤ (s 3018) ∧ (s 3018) ≤ 2147483647 := hS 3018
        refine tt_dvp (x := ((s 3017) + (2 * (s 3018)))) (y := ((2 * (s 3018)) + 1)) rfl (by omega) ?_
        show tt Zi d 144 (319, [some (.inr (.inl 30)), some (.inr (.inl 46)), some (.inl bits), some (.inl nr), some (.inl top), some (.inl f_), none], [.inl ((((s 3017) + (2 * (s 3018))) / ((2 * (s 3018)) + 1))), .inr (.inl 30)], n, D, (us (us (us (us s 3019 j2) 3020 j8) 3021 j14) 3023 (((2 * (s 3018)) + 1))), p, c) _
        have b21 : 0 ≤ (((s 3017) + (2 * (s 3018))) / ((2 * (s 3018)) + 1)) ∧ (((s 3017) + (2 * (s 3018))) / ((2 * (s 3018)) + 1)) ≤ ((s 3017) + (2 * (s 3018))) := td_le (by omega) (by omega)
        refine tt_k 6 (S' := (329, [some (.inr (.inl 30)), some (.inr (.inl 46)), some (.inl bits), some (.inl nr), some (.inl top), some (.inl f_), none], [], n, D, (us (us (us (us (us (us s 3019 j2) 3020 j8) 3021 j14) 3023 (((2 * (s 3018)) + 1))) 3024 (((((s 3017) + (2 * (s 3018))) / ((2 * (s 3018)) + 1)) + 1))) 3025 0), p, c)) rfl ?_
        refine x_measCR_L329 (Zi := Zi) (D := D) (s := (us (us (us (us (us (us s 3019 j2) 3020 j8) 3021 j14) 3023 (((2 * (s 3018)) + 1))) 3024 (((((s 3017) + (2 * (s 3018))) / ((2 * (s 3018)) + 1)) + 1))) 3025 0)) (p := p) (c := c) hd (bS_us (bS_us (bS_us (bS_us (bS_us (bS_us hS (show -2147483648 ≤ j2 ∧ j2 ≤ 2147483647 by omega)) (show -2147483648 ≤ j8 ∧ j8 ≤ 2147483647 by omega)) (show -2147483648 ≤ j14 ∧ j14 ≤ 2147483647 by omega)) (show -2147483648 ≤ ((2 * (s 3018)) + 1) ∧ ((2 * (s 3018)) + 1) ≤ 2147483647 by omega)) (show -2147483648 ≤ ((((s 3017) + (2 * (s 3018))) / ((2 * (s 3018)) + 1)) + 1) ∧ ((((s 3017) + (2 * (s 3018))) / ((2 * (s 3018)) + 1)) + 1) ≤ 2147483647 by omega)) (show 0 ≤ 0 ∧ 0 ≤ 31 by omega)) hC   (show (((((s 3017) + (2 * (s 3018))) / ((2 * (s 3018)) + 1)) + 1)) ≤ 65537 by omega) ?_ _  (us (us (us (us (us (us s 3019 j2) 3020 j8) 3021 j14) 3023 (((2 * (s 3018)) + 1))) 3024 (((((s 3017) + (2 * (s 3018))) / ((2 * (s 3018)) + 1)) + 1))) 3025 0) (bS_us (bS_us (bS_us (bS_us (bS_us (bS_us hS (show -2147483648 ≤ j2 ∧ j2 ≤ 2147483647 by omega)) (show -2147483648 ≤ j8 ∧ j8 ≤ 2147483647 by omega)) (show -2147483648 ≤ j14 ∧ j14 ≤ 2147483647 by omega)) (show -2147483648 ≤ ((2 * (s 3018)) + 1) ∧ ((2 * (s 3018)) + 1) ≤ 2147483647 by omega)) (show -2147483648 ≤ ((((s 3017) + (2 * (s 3018))) / ((2 * (s 3018)) + 1)) + 1) ∧ ((((s 3017) + (2 * (s 3018))) / ((2 * (s 3018)) + 1)) + 1) ≤ 2147483647 by omega)) (show 0 ≤ 0 ∧ 0 ≤ 31 by omega)) fr_rf (Or.inl rfl) (show (0 : Int) ≤ 0 ∧ (0 : Int) ≤ 17 by decide) (Nat.lt_succ_self _)
        intro s22 hS22 f23 i24 i25 hx26
        show tt Zi d 144 (355, [some (.inr (.inl 30)), some (.inr (.inl 46)), some (.inl bits), some (.inl nr), some (.inl top), some (.inl f_), none], [], n, D, s22, p, c) _
        have e27 : s22 3017 = (s 3017) := (f23 3017 (by decide))
        have b28 : 0 ≤ (s22 3017) ∧ (s22 3017) ≤ 65535 := hS22 3017
        have e29 : s22 3018 = (s 3018) := (f23 3018 (by decide))
        have b30 : -2147483648 ≤ (s22 3018) ∧ (s22 3018) ≤ 2147483647 := hS22 3018
        have e31 : s22 3019 = j2 := (f23 3019 (by decide))
        have b32 : -2147483648 ≤ (s22 3019) ∧ (s22 3019) ≤ 2147483647 := hS22 3019
        have e33 : s22 3020 = j8 := (f23 3020 (by decide))
        have b34 : -2147483648 ≤ (s22 3020) ∧ (s22 3020) ≤ 2147483647 := hS22 3020
        have e35 : s22 3021 = j14 := (f23 3021 (by decide))
        have b36 : -2147483648 ≤ (s22 3021) ∧ (s22 3021) ≤ 2147483647 := hS22 3021
        have e37 : s22 3022 = (s 3022) := (f23 3022 (by decide))
        have b38 : 0 ≤ (s22 3022) ∧ (s22 3022) ≤ 65535 := hS22 3022
        have b39 : 0 ≤ (s 3022) ∧ (s 3022) ≤ 65535 := hS 3022
        have e40 : s22 3023 = ((2 * (s 3018)) + 1) := (f23 3023 (by decide))
        have b41 : -2147483648 ≤ (s22 3023) ∧ (s22 3023) ≤ 2147483647 := hS22 3023
        have e42 : s22 3024 = ((((s 3017) + (2 * (s 3018))) / ((2 * (s 3018)) + 1)) + 1) := (f23 3024 (by decide))
        have b43 : -2147483648 ≤ (s22 3024) ∧ (s22 3024) ≤ 2147483647 := hS22 3024
        have hke : s22 3025 = ke (((((s 3017) + (2 * (s 3018))) / ((2 * (s 3018)) + 1)) + 1)) 1 := ke_eq (by decide) (by omega) (by rw [Int.one_mul]; exact hx26) (by rw [Int.one_mul]; exact i24)
        refine tt_k 2 (S' := (358, [some (.inr (.inl 30)), some (.inr (.inl 46)), some (.inl bits), some (.inl nr), some (.inl top), some (.inl 2), none], [], n, D, s22, p, c)) rfl ?_
        refine x_measCR_L358 (Zi := Zi) (D := D) (s := s22) (p := p) (c := c) hd hS22 hC   (show (s22 3017) ≤ 65535 by omega) ?_ _ 2  (by omega) (Or.inl rfl) (Nat.lt_succ_self _)
        intro x44 b45 i46 hx47
        show tt Zi d 144 (375, [some (.inr (.inl 30)), some (.inr (.inl 46)), some (.inl bits), some (.inl nr), some (.inl top), some (.inl x44), none], [], n, D, s22, p, c) _
        have hbo : x44 = zBo (s 3017) := by rw [← show (s22 3017) = s 3017 by omega]; exact bo_eq (by omega) hx47 i46 (by omega)
        refine tt_k 5 (S' := (383, [some (.inr (.inl 30)), some (.inr (.inl 46)), some (.inl bits), some (.inl nr), some (.inl top), some (.inl x44), none], [.inl x44, .inl 8, .inl x44, .inl 2, .inr (.inl 30)], n, D, s22, p, c)) rfl ?_
        refine tt_cl (by omega) rfl (k_more (Zi := Zi) (D := D) (s := s22) (p := p) (c := c) (by omega) hS22 hC 8 x44 (by omega) (by omega)) ?_
        rintro _ _ ⟨r48, rfl, rfl, b49, k50⟩
        show tt Zi d 144 (386, [some (.inr (.inl 30)), some (.inr (.inl 46)), some (.inl bits), some (.inl nr), some (.inl top), some (.inl x44), none], [.inl r48, .inl x44, .inl 2, .inr (.inl 30)], n, D, s22, p, c) _
        replace k50 : r48 = max 8 x44 := k50
        subst k50
        show tt Zi d 144 (386, [some (.inr (.inl 30)), some (.inr (.inl 46)), some (.inl bits), some (.inl nr), some (.inl top), some (.inl x44), none], [.inl (max 8 x44), .inl x44, .inl 2, .inr (.inl 30)], n, D, s22, p, c) _
        refine tt_k 9 (S' := (401, [some (.inr (.inl 30)), some (.inr (.inl 46)), some (.inl bits), some (.inl nr), some (.inl top), some (.inl x44), none], [.inl (s22 3019), .inl ((s22 3018) + 1)], n, D, (us s22 3026 ((2 * (x44 + (max 8 x44))))), p, c)) rfl ?_
        have K52 : ∀ (j51 : Int) , (0 ≤ j51 ∧ j51 ≤ 1) → (j51 = 1 ↔ (((s22 3018) + 1) ≤ (s22 3019) ∧ (s22 3019) ≤ (s22 3020) ∧ (s22 3020) ≤ (s22 3021) ∧ (s22 3021) ≤ (s22 3017))) → (True) → tt Zi d 144 (442, [some (.inr (.inl 30)), some (.inr (.inl 46)), some (.inl bits), some (.inl nr), some (.inl top), some (.inl x44), none], [.inl j51], n, D, (us s22 3026 ((2 * (x44 + (max 8 x44))))), p, c) (fun R H => ∃ (s' : Nat → Int) (r : Int), R = .inl (some (.inl r)) ∧ H = (n, D, s', p, c) ∧ bS s' ∧ fr s s' [3017, 3018, 3019, 3020, 3021, 3022, 3023, 3024, 3025, 3026] ∧ (0 ≤ r ∧ r ≤ 1) ∧ ((r = 1 ∧ VM (c 46 0) (c 46 1) (c 46 2) (c 46 3) (c 46 4) bits nr ∧ zq (ZM (c 46 0) (c 46 1) (c 46 2) (c 46 3) (c 46 4) bits nr) (s' 3017) (s' 3018) (s' 3019) (s' 3020) (s' 3021) (s' 3022) (s' 3023) (s' 3024) (s' 3025) (s' 3026)) ∨ (r = 0 ∧ ¬ VM (c 46 0) (c 46 1) (c 46 2) (c 46 3) (c 46 4) bits nr))) := by
          intro j51 b54 b55 hj53
          refine tt_k 4 (S' := (450, [some (.inr (.inl 30)), some (.inr (.inl 46)), some (.inl bits), some (.inl nr), some (.inl top), some (.inl x44), some (.inl j51)], [.inl top, .inl (s22 3017)], n, D, (us s22 3026 ((2 * (x44 + (max 8 x44))))), p, c)) rfl ?_
          refine tb_gt (x := (s22 3017)) (y := top) rfl rfl (by omega) (fun h56 => ?_) (fun h56 => ?_)
          · show tt Zi d 144 (510, [some (.inr (.inl 30)), some (.inr (.inl 46)), some (.inl bits), some (.inl nr), some (.inl top), some (.inl x44), some (.inl j51)], [], n, D, (us s22 3026 ((2 * (x44 + (max 8 x44))))), p, c) _
            refine tt_k 1 (S' := (511, [some (.inr (.inl 30)), some (.inr (.inl 46)), some (.inl bits), some (.inl nr), some (.inl top), some (.inl x44), some (.inl j51)], [.inl 0], n, D, (us s22 3026 ((2 * (x44 + (max 8 x44))))), p, c)) rfl ?_
            exact tt_rtb rfl rfl (by omega) ⟨(us s22 3026 ((2 * (x44 + (max 8 x44))))), 0, rfl, rfl, (bS_us hS22 (show 0 ≤ (2 * (x44 + (max 8 x44))) ∧ (2 * (x44 + (max 8 x44))) ≤ 96 by omega)), (fr_us (by decide) (fr_tr (fr_us (by decide) (fr_us (by decide) (fr_us (by decide) (fr_us (by decide) (fr_us (by decide) (fr_us (by decide) fr_rf)))))) f23 (by decide))), by omega, by show (0 = 1 ∧ VM (c 46 0) (c 46 1) (c 46 2) (c 46 3) (c 46 4) bits nr ∧ zq (ZM (c 46 0) (c 46 1) (c 46 2) (c 46 3) (c 46 4) bits nr) ((s22 3017)) ((s22 3018)) ((s22 3019)) ((s22 3020)) ((s22 3021)) ((s22 3022)) ((s22 3023)) ((s22 3024)) ((s22 3025)) (((2 * (x44 + (max 8 x44)))))) ∨ (0 = 0 ∧ ¬ VM (c 46 0) (c 46 1) (c 46 2) (c 46 3) (c 46 4) bits nr); exact Or.inr ⟨rfl, by unfold VM; omega⟩⟩
          · show tt Zi d 144 (453, [some (.inr (.inl 30)), some (.inr (.inl 46)), some (.inl bits), some (.inl nr), some (.inl top), some (.inl x44), some (.inl j51)], [], n, D, (us s22 3026 ((2 * (x44 + (max 8 x44))))), p, c) _
            refine tt_k 4 (S' := (461, [some (.inr (.inl 30)), some (.inr (.inl 46)), some (.inl bits), some (.inl nr), some (.inl top), some (.inl x44), some (.inl j51)], [.inl 255, .inl 0, .inl (s22 3018)], n, D, (us s22 3026 ((2 * (x44 + (max 8 x44))))), p, c)) rfl ?_
            refine tt_cl (by omega) rfl (k_isIn (Zi := Zi) (D := D) (s := (us s22 3026 ((2 * (x44 + (max 8 x44)))))) (p := p) (c := c) (by omega) (bS_us hS22 (show 0 ≤ (2 * (x44 + (max 8 x44))) ∧ (2 * (x44 + (max 8 x44))) ≤ 96 by omega)) hC (s22 3018) 0 255 (by omega) (by omega) (by omega)) ?_
            rintro _ _ ⟨r57, rfl, rfl, b58, k59⟩
            show tt Zi d 144 (464, [some (.inr (.inl 30)), some (.inr (.inl 46)), some (.inl bits), some (.inl nr), some (.inl top), some (.inl x44), some (.inl j51)], [.inl r57], n, D, (us s22 3026 ((2 * (x44 + (max 8 x44))))), p, c) _
            replace k59 : r57 = if 0 ≤ (s22 3018) ∧ (s22 3018) ≤ 255 then (1 : Int) else 0 := k59
            subst k59
            show tt Zi d 144 (464, [some (.inr (.inl 30)), some (.inr (.inl 46)), some (.inl bits), some (.inl nr), some (.inl top), some (.inl x44), some (.inl j51)], [.inl (if 0 ≤ (s22 3018) ∧ (s22 3018) ≤ 255 then (1 : Int) else 0)], n, D, (us s22 3026 ((2 * (x44 + (max 8 x44))))), p, c) _
            refine tz_eq (x := (if 0 ≤ (s22 3018) ∧ (s22 3018) ≤ 255 then (1 : Int) else 0)) rfl rfl (by omega) (fun h60 => ?_) (fun h60 => ?_)
            · show tt Zi d 144 (510, [some (.inr (.inl 30)), some (.inr (.inl 46)), some (.inl bits), some (.inl nr), some (.inl top), some (.inl x44), some (.inl j51)], [], n, D, (us s22 3026 ((2 * (x44 + (max 8 x44))))), p, c) _
              refine tt_k 1 (S' := (511, [some (.inr (.inl 30)), some (.inr (.inl 46)), some (.inl bits), some (.inl nr), some (.inl top), some (.inl x44), some (.inl j51)], [.inl 0], n, D, (us s22 3026 ((2 * (x44 + (max 8 x44))))), p, c)) rfl ?_
              exact tt_rtb rfl rfl (by omega) ⟨(us s22 3026 ((2 * (x44 + (max 8 x44))))), 0, rfl, rfl, (bS_us hS22 (show 0 ≤ (2 * (x44 + (max 8 x44))) ∧ (2 * (x44 + (max 8 x44))) ≤ 96 by omega)), (fr_us (by decide) (fr_tr (fr_us (by decide) (fr_us (by decide) (fr_us (by decide) (fr_us (by decide) (fr_us (by decide) (fr_us (by decide) fr_rf)))))) f23 (by decide))), by omega, by show (0 = 1 ∧ VM (c 46 0) (c 46 1) (c 46 2) (c 46 3) (c 46 4) bits nr ∧ zq (ZM (c 46 0) (c 46 1) (c 46 2) (c 46 3) (c 46 4) bits nr) ((s22 3017)) ((s22 3018)) ((s22 3019)) ((s22 3020)) ((s22 3021)) ((s22 3022)) ((s22 3023)) ((s22 3024)) ((s22 3025)) (((2 * (x44 + (max 8 x44)))))) ∨ (0 = 0 ∧ ¬ VM (c 46 0) (c 46 1) (c 46 2) (c 46 3) (c 46 4) bits nr); exact Or.inr ⟨rfl, by unfold VM; omega⟩⟩
            · show tt Zi d 144 (467, [some (.inr (.inl 30)), some (.inr (.inl 46)), some (.inl bits), some (.inl nr), some (.inl top), some (.inl x44), some (.inl j51)], [], n, D, (us s22 3026 ((2 * (x44 + (max 8 x44))))), p, c) _
              refine tt_k 5 (S' := (476, [some (.inr (.inl 30)), some (.inr (.inl 46)), some (.inl bits), some (.inl nr), some (.inl top), some (.inl x44), some (.inl j51)], [.inl 2, .inl (s22 3017), .inl (s22 3018)], n, D, (us s22 3026 ((2 * (x44 + (max 8 x44))))), p, c)) rfl ?_
              refine tt_dvp (x := (s22 3017)) (y := 2) rfl (by omega) ?_
              show tt Zi d 144 (477, [some (.inr (.inl 30)), some (.inr (.inl 46)), some (.inl bits), some (.inl nr), some (.inl top), some (.inl x44), some (.inl j51)], [.inl ((s22 3017) / 2), .inl (s22 3018)], n, D, (us s22 3026 ((2 * (x44 + (max 8 x44))))), p, c) _
              refine tb_gt (x := (s22 3018)) (y := ((s22 3017) / 2)) rfl rfl (by omega) (fun h61 => ?_) (fun h61 => ?_)
              · show tt Zi d 144 (510, [some (.inr (.inl 30)), some (.inr (.inl 46)), some (.inl bits), some (.inl nr), some (.inl top), some (.inl x44), some (.inl j51)], [], n, D, (us s22 3026 ((2 * (x44 + (max 8 x44))))), p, c) _
                refine tt_k 1 (S' := (511, [some (.inr (.inl 30)), some (.inr (.inl 46)), some (.inl bits), some (.inl nr), some (.inl top), some (.inl x44), some (.inl j51)], [.inl 0], n, D, (us s22 3026 ((2 * (x44 + (max 8 x44))))), p, c)) rfl ?_
                exact tt_rtb rfl rfl (by omega) ⟨(us s22 3026 ((2 * (x44 + (max 8 x44))))), 0, rfl, rfl, (bS_us hS22 (show 0 ≤ (2 * (x44 + (max 8 x44))) ∧ (2 * (x44 + (max 8 x44))) ≤ 96 by omega)), (fr_us (by decide) (fr_tr (fr_us (by decide) (fr_us (by decide) (fr_us (by decide) (fr_us (by decide) (fr_us (by decide) (fr_us (by decide) fr_rf)))))) f23 (by decide))), by omega, by show (0 = 1 ∧ VM (c 46 0) (c 46 1) (c 46 2) (c 46 3) (c 46 4) bits nr ∧ zq (ZM (c 46 0) (c 46 1) (c 46 2) (c 46 3) (c 46 4) bits nr) ((s22 3017)) ((s22 3018)) ((s22 3019)) ((s22 3020)) ((s22 3021)) ((s22 3022)) ((s22 3023)) ((s22 3024)) ((s22 3025)) (((2 * (x44 + (max 8 x44)))))) ∨ (0 = 0 ∧ ¬ VM (c 46 0) (c 46 1) (c 46 2) (c 46 3) (c 46 4) bits nr); exact Or.inr ⟨rfl, by unfold VM; omega⟩⟩
              · show tt Zi d 144 (480, [some (.inr (.inl 30)), some (.inr (.inl 46)), some (.inl bits), some (.inl nr), some (.inl top), some (.inl x44), some (.inl j51)], [], n, D, (us s22 3026 ((2 * (x44 + (max 8 x44))))), p, c) _
                refine tt_k 1 (S' := (482, [some (.inr (.inl 30)), some (.inr (.inl 46)), some (.inl bits), some (.inl nr), some (.inl top), some (.inl x44), some (.inl j51)], [.inl j51], n, D, (us s22 3026 ((2 * (x44 + (max 8 x44))))), p, c)) rfl ?_
                refine tz_eq (x := j51) rfl rfl (by omega) (fun h62 => ?_) (fun h62 => ?_)
                · show tt Zi d 144 (510, [some (.inr (.inl 30)), some (.inr (.inl 46)), some (.inl bits), some (.inl nr), some (.inl top), some (.inl x44), some (.inl j51)], [], n, D, (us s22 3026 ((2 * (x44 + (max 8 x44))))), p, c) _
                  refine tt_k 1 (S' := (511, [some (.inr (.inl 30)), some (.inr (.inl 46)), some (.inl bits), some (.inl nr), some (.inl top), some (.inl x44), some (.inl j51)], [.inl 0], n, D, (us s22 3026 ((2 * (x44 + (max 8 x44))))), p, c)) rfl ?_
                  exact tt_rtb rfl rfl (by omega) ⟨(us s22 3026 ((2 * (x44 + (max 8 x44))))), 0, rfl, rfl, (bS_us hS22 (show 0 ≤ (2 * (x44 + (max 8 x44))) ∧ (2 * (x44 + (max 8 x44))) ≤ 96 by omega)), (fr_us (by decide) (fr_tr (fr_us (by decide) (fr_us (by decide) (fr_us (by decide) (fr_us (by decide) (fr_us (by decide) (fr_us (by decide) fr_rf)))))) f23 (by decide))), by omega, by show (0 = 1 ∧ VM (c 46 0) (c 46 1) (c 46 2) (c 46 3) (c 46 4) bits nr ∧ zq (ZM (c 46 0) (c 46 1) (c 46 2) (c 46 3) (c 46 4) bits nr) ((s22 3017)) ((s22 3018)) ((s22 3019)) ((s22 3020)) ((s22 3021)) ((s22 3022)) ((s22 3023)) ((s22 3024)) ((s22 3025)) (((2 * (x44 + (max 8 x44)))))) ∨ (0 = 0 ∧ ¬ VM (c 46 0) (c 46 1) (c 46 2) (c 46 3) (c 46 4) bits nr); exact Or.inr ⟨rfl, by unfold VM; omega⟩⟩
                · show tt Zi d 144 (485, [some (.inr (.inl 30)), some (.inr (.inl 46)), some (.inl bits), some (.inl nr), some (.inl top), some (.inl x44), some (.inl j51)], [], n, D, (us s22 3026 ((2 * (x44 + (max 8 x44))))), p, c) _
                  refine tt_k 6 (S' := (497, [some (.inr (.inl 30)), some (.inr (.inl 46)), some (.inl bits), some (.inl nr), some (.inl top), some (.inl x44), some (.inl j51)], [.inl (s22 3017), .inl 255, .inl 3, .inl (s22 3022)], n, D, (us s22 3026 ((2 * (x44 + (max 8 x44))))), p, c)) rfl ?_
                  refine tt_cl (by omega) rfl (k_more (Zi := Zi) (D := D) (s := (us s22 3026 ((2 * (x44 + (max 8 x44)))))) (p := p) (c := c) (by omega) (bS_us hS22 (show 0 ≤ (2 * (x44 + (max 8 x44))) ∧ (2 * (x44 + (max 8 x44))) ≤ 96 by omega)) hC 255 (s22 3017) (by omega) (by omega)) ?_
                  rintro _ _ ⟨r63, rfl, rfl, b64, k65⟩
                  show tt Zi d 144 (500, [some (.inr (.inl 30)), some (.inr (.inl 46)), some (.inl bits), some (.inl nr), some (.inl top), some (.inl x44), some (.inl j51)], [.inl r63, .inl 3, .inl (s22 3022)], n, D, (us s22 3026 ((2 * (x44 + (max 8 x44))))), p, c) _
                  replace k65 : r63 = max 255 (s22 3017) := k65
                  subst k65
                  show tt Zi d 144 (500, [some (.inr (.inl 30)), some (.inr (.inl 46)), some (.inl bits), some (.inl nr), some (.inl top), some (.inl x44), some (.inl j51)], [.inl (max 255 (s22 3017)), .inl 3, .inl (s22 3022)], n, D, (us s22 3026 ((2 * (x44 + (max 8 x44))))), p, c) _
                  refine tt_cl (by omega) rfl (k_isIn (Zi := Zi) (D := D) (s := (us s22 3026 ((2 * (x44 + (max 8 x44)))))) (p := p) (c := c) (by omega) (bS_us hS22 (show 0 ≤ (2 * (x44 + (max 8 x44))) ∧ (2 * (x44 + (max 8 x44))) ≤ 96 by omega)) hC (s22 3022) 3 (max 255 (s22 3017)) (by omega) (by omega) (by omega)) ?_
                  rintro _ _ ⟨r66, rfl, rfl, b67, k68⟩
                  show tt Zi d 144 (503, [some (.inr (.inl 30)), some (.inr (.inl 46)), some (.inl bits), some (.inl nr), some (.inl top), some (.inl x44), some (.inl j51)], [.inl r66], n, D, (us s22 3026 ((2 * (x44 + (max 8 x44))))), p, c) _
                  replace k68 : r66 = if 3 ≤ (s22 3022) ∧ (s22 3022) ≤ (max 255 (s22 3017)) then (1 : Int) else 0 := k68
                  subst k68
                  show tt Zi d 144 (503, [some (.inr (.inl 30)), some (.inr (.inl 46)), some (.inl bits), some (.inl nr), some (.inl top), some (.inl x44), some (.inl j51)], [.inl ((if 3 ≤ (s22 3022) ∧ (s22 3022) ≤ (max 255 (s22 3017)) then (1 : Int) else 0))], n, D, (us s22 3026 ((2 * (x44 + (max 8 x44))))), p, c) _
                  refine tz_eq (x := (if 3 ≤ (s22 3022) ∧ (s22 3022) ≤ (max 255 (s22 3017)) then (1 : Int) else 0)) rfl rfl (by omega) (fun h69 => ?_) (fun h69 => ?_)
                  · show tt Zi d 144 (510, [some (.inr (.inl 30)), some (.inr (.inl 46)), some (.inl bits), some (.inl nr), some (.inl top), some (.inl x44), some (.inl j51)], [], n, D, (us s22 3026 ((2 * (x44 + (max 8 x44))))), p, c) _
                    refine tt_k 1 (S' := (511, [some (.inr (.inl 30)), some (.inr (.inl 46)), some (.inl bits), some (.inl nr), some (.inl top), some (.inl x44), some (.inl j51)], [.inl 0], n, D, (us s22 3026 ((2 * (x44 + (max 8 x44))))), p, c)) rfl ?_
                    exact tt_rtb rfl rfl (by omega) ⟨(us s22 3026 ((2 * (x44 + (max 8 x44))))), 0, rfl, rfl, (bS_us hS22 (show 0 ≤ (2 * (x44 + (max 8 x44))) ∧ (2 * (x44 + (max 8 x44))) ≤ 96 by omega)), (fr_us (by decide) (fr_tr (fr_us (by decide) (fr_us (by decide) (fr_us (by decide) (fr_us (by decide) (fr_us (by decide) (fr_us (by decide) fr_rf)))))) f23 (by decide))), by omega, by show (0 = 1 ∧ VM (c 46 0) (c 46 1) (c 46 2) (c 46 3) (c 46 4) bits nr ∧ zq (ZM (c 46 0) (c 46 1) (c 46 2) (c 46 3) (c 46 4) bits nr) ((s22 3017)) ((s22 3018)) ((s22 3019)) ((s22 3020)) ((s22 3021)) ((s22 3022)) ((s22 3023)) ((s22 3024)) ((s22 3025)) (((2 * (x44 + (max 8 x44)))))) ∨ (0 = 0 ∧ ¬ VM (c 46 0) (c 46 1) (c 46 2) (c 46 3) (c 46 4) bits nr); exact Or.inr ⟨rfl, by unfold VM; omega⟩⟩
                  · show tt Zi d 144 (506, [some (.inr (.inl 30)), some (.inr (.inl 46)), some (.inl bits), some (.inl nr), some (.inl top), some (.inl x44), some (.inl j51)], [], n, D, (us s22 3026 ((2 * (x44 + (max 8 x44))))), p, c) _
                    refine tt_k 2 (S' := (511, [some (.inr (.inl 30)), some (.inr (.inl 46)), some (.inl bits), some (.inl nr), some (.inl top), some (.inl x44), some (.inl j51)], [.inl 1], n, D, (us s22 3026 ((2 * (x44 + (max 8 x44))))), p, c)) rfl ?_
                    exact tt_rtb rfl rfl (by omega) ⟨(us s22 3026 ((2 * (x44 + (max 8 x44))))), 1, rfl, rfl, (bS_us hS22 (show 0 ≤ (2 * (x44 + (max 8 x44))) ∧ (2 * (x44 + (max 8 x44))) ≤ 96 by omega)), (fr_us (by decide) (fr_tr (fr_us (by decide) (fr_us (by decide) (fr_us (by decide) (fr_us (by decide) (fr_us (by decide) (fr_us (by decide) fr_rf)))))) f23 (by decide))), by omega, by show (1 = 1 ∧ VM (c 46 0) (c 46 1) (c 46 2) (c 46 3) (c 46 4) bits nr ∧ zq (ZM (c 46 0) (c 46 1) (c 46 2) (c 46 3) (c 46 4) bits nr) ((s22 3017)) ((s22 3018)) ((s22 3019)) ((s22 3020)) ((s22 3021)) ((s22 3022)) ((s22 3023)) ((s22 3024)) ((s22 3025)) (((2 * (x44 + (max 8 x44)))))) ∨ (1 = 0 ∧ ¬ VM (c 46 0) (c 46 1) (c 46 2) (c 46 3) (c 46 4) bits nr); exact Or.inl ⟨rfl, by unfold VM; omega, by show _ = (zMo (c 46 0) bits); omega, by show _ = nr; omega, by show _ = (zT1 (c 46 1) (zMo (c 46 0) bits) nr); omega, by show _ = (zT2 (c 46 2) (zT1 (c 46 1) (zMo (c 46 0) bits) nr) (zMo (c 46 0) bits) nr); omega, by show _ = (zT3 (c 46 3) (zT2 (c 46 2) (zT1 (c 46 1) (zMo (c 46 0) bits) nr) (zMo (c 46 0) bits) nr) (zMo (c 46 0) bits) nr); omega, by show _ = zHa (c 46 4); omega, by show _ = 2 * nr + 1; omega, by show _ = zRg (zMo (c 46 0) bits) nr; rw [← hp1, ← hp0]; unfold zRg; omega, by show _ = ke (zRg (zMo (c 46 0) bits) nr) 1; rw [← hp1, ← hp0]; unfold zRg; exact hke, by show _ = zLo (zMo (c 46 0) bits); rw [← hp1]; unfold zLo; rw [← hbo]⟩⟩
        refine tb_gt (x := ((s22 3018) + 1)) (y := (s22 3019)) rfl rfl (by omega) (fun h70 => ?_) (fun h70 => ?_)
        · show tt Zi d 144 (441, [some (.inr (.inl 30)), some (.inr (.inl 46)), some (.inl bits), some (.inl nr), some (.inl top), some (.inl x44), none], [], n, D, (us s22 3026 ((2 * (x44 + (max 8 x44))))), p, c) _
          refine tt_k 1 (S' := (442, [some (.inr (.inl 30)), some (.inr (.inl 46)), some (.inl bits), some (.inl nr), some (.inl top), some (.inl x44), none], [.inl 0], n, D, (us s22 3026 ((2 * (x44 + (max 8 x44))))), p, c)) rfl ?_
          exact K52 0  (by omega) (by omega) (trivial)
        · show tt Zi d 144 (404, [some (.inr (.inl 30)), some (.inr (.inl 46)), some (.inl bits), some (.inl nr), some (.inl top), some (.inl x44), none], [], n, D, (us s22 3026 ((2 * (x44 + (max 8 x44))))), p, c) _
          refine tt_k 4 (S' := (412, [some (.inr (.inl 30)), some (.inr (.inl 46)), some (.inl bits), some (.inl nr), some (.inl top), some (.inl x44), none], [.inl (s22 3020), .inl (s22 3019)], n, D, (us s22 3026 ((2 * (x44 + (max 8 x44))))), p, c)) rfl ?_
          refine tb_gt (x := (s22 3019)) (y := (s22 3020)) rfl rfl (by omega) (fun h71 => ?_) (fun h71 => ?_)
          · show tt Zi d 144 (441, [some (.inr (.inl 30)), some (.inr (.inl 46)), some (.inl bits), some (.inl nr), some (.inl top), some (.inl x44), none], [], n, D, (us s22 3026 ((2 * (x44 + (max 8 x44))))), p, c) _
            refine tt_k 1 (S' := (442, [some (.inr (.inl 30)), some (.inr (.inl 46)), some (.inl bits), some (.inl nr), some (.inl top), some (.inl x44), none], [.inl 0], n, D, (us s22 3026 ((2 * (x44 + (max 8 x44))))), p, c)) rfl ?_
            exact K52 0  (by omega) (by omega) (trivial)
          · show tt Zi d 144 (415, [some (.inr (.inl 30)), some (.inr (.inl 46)), some (.inl bits), some (.inl nr), some (.inl top), some (.inl x44), none], [], n, D, (us s22 3026 ((2 * (x44 + (max 8 x44))))), p, c) _
            refine tt_k 4 (S' := (423, [some (.inr (.inl 30)), some (.inr (.inl 46)), some (.inl bits), some (.inl nr), some (.inl top), some (.inl x44), none], [.inl (s22 3021), .inl (s22 3020)], n, D, (us s22 3026 ((2 * (x44 + (max 8 x44))))), p, c)) rfl ?_
            refine tb_gt (x := (s22 3020)) (y := (s22 3021)) rfl rfl (by omega) (fun h72 => ?_) (fun h72 => ?_)
            · show tt Zi d 144 (441, [some (.inr (.inl 30)), some (.inr (.inl 46)), some (.inl bits), some (.inl nr), some (.inl top), some (.inl x44), none], [], n, D, (us s22 3026 ((2 * (x44 + (max 8 x44))))), p, c) _
              refine tt_k 1 (S' := (442, [some (.inr (.inl 30)), some (.inr (.inl 46)), some (.inl bits), some (.inl nr), some (.inl top), some (.inl x44), none], [.inl 0], n, D, (us s22 3026 ((2 * (x44 + (max 8 x44))))), p, c)) rfl ?_
              exact K52 0  (by omega) (by omega) (trivial)
            · show tt Zi d 144 (426, [some (.inr (.inl 30)), some (.inr (.inl 46)), some (.inl bits), some (.inl nr), some (.inl top), some (.inl x44), none], [], n, D, (us s22 3026 ((2 * (x44 + (max 8 x44))))), p, c) _
              refine tt_k 4 (S' := (434, [some (.inr (.inl 30)), some (.inr (.inl 46)), some (.inl bits), some (.inl nr), some (.inl top), some (.inl x44), none], [.inl (s22 3017), .inl (s22 3021)], n, D, (us s22 3026 ((2 * (x44 + (max 8 x44))))), p, c)) rfl ?_
              refine tb_gt (x := (s22 3021)) (y := (s22 3017)) rfl rfl (by omega) (fun h73 => ?_) (fun h73 => ?_)
              · show tt Zi d 144 (441, [some (.inr (.inl 30)), some (.inr (.inl 46)), some (.inl bits), some (.inl nr), some (.inl top), some (.inl x44), none], [], n, D, (us s22 3026 ((2 * (x44 + (max 8 x44))))), p, c) _
                refine tt_k 1 (S' := (442, [some (.inr (.inl 30)), some (.inr (.inl 46)), some (.inl bits), some (.inl nr), some (.inl top), some (.inl x44), none], [.inl 0], n, D, (us s22 3026 ((2 * (x44 + (max 8 x44))))), p, c)) rfl ?_
                exact K52 0  (by omega) (by omega) (trivial)
              · show tt Zi d 144 (437, [some (.inr (.inl 30)), some (.inr (.inl 46)), some (.inl bits), some (.inl nr), some (.inl top), some (.inl x44), none], [], n, D, (us s22 3026 ((2 * (x44 + (max 8 x44))))), p, c) _
                refine tt_k 2 (S' := (442, [some (.inr (.inl 30)), some (.inr (.inl 46)), some (.inl bits), some (.inl nr), some (.inl top), some (.inl x44), none], [.inl 1], n, D, (us s22 3026 ((2 * (x44 + (max 8 x44))))), p, c)) rfl ?_
                exact K52 1  (by omega) (by omega) (trivial)
      refine tz_ne (x := (c 46 (3 : Int).toNat)) rfl rfl (by omega) (fun h74 => ?_) (fun h74 => ?_)
      · show tt Zi d 144 (284, [some (.inr (.inl 30)), some (.inr (.inl 46)), some (.inl bits), some (.inl nr), some (.inl top), some (.inl f_), none], [.inr (.inl 30)], n, D, (us (us s 3019 j2) 3020 j8), p, c) _
        refine tt_k 2 (S' := (286, [some (.inr (.inl 30)), some (.inr (.inl 46)), some (.inl bits), some (.inl nr), some (.inl top), some (.inl f_), none], [.inl 3, .inr (.inl 46), .inr (.inl 30)], n, D, (us (us s 3019 j2) 3020 j8), p, c)) rfl ?_
        refine tt_ildv (i := 3) (v := (c 46 (3 : Int).toNat)) rfl rfl (by omega) rfl ?_
        show tt Zi d 144 (287, [some (.inr (.inl 30)), some (.inr (.inl 46)), some (.inl bits), some (.inl nr), some (.inl top), some (.inl f_), none], [.inl (c 46 (3 : Int).toNat), .inr (.inl 30)], n, D, (us (us s 3019 j2) 3020 j8), p, c) _
        exact K15 (c 46 (3 : Int).toNat)  (by omega) (by unfold zT3; first | (rw [if_neg (by omega)]; omega) | (rw [if_pos (by omega), ← b12, ← hp4, ← hp1]; first | exact kpl | (rw [hp0] at kpl; exact kpl))) (trivial)
      · show tt Zi d 144 (269, [some (.inr (.inl 30)), some (.inr (.inl 46)), some (.inl bits), some (.inl nr), some (.inl top), some (.inl f_), none], [.inr (.inl 30)], n, D, (us (us s 3019 j2) 3020 j8), p, c) _
        refine tt_k 5 (S' := (278, [some (.inr (.inl 30)), some (.inr (.inl 46)), some (.inl bits), some (.inl nr), some (.inl top), some (.inl f_), none], [.inl j8, .inl (s 3021), .inr (.inl 30), .inr (.inl 30)], n, D, (us (us s 3019 j2) 3020 j8), p, c)) rfl ?_
        have b75 : -2147483648 ≤ (s 3021) ∧ (s 3021) ≤ 2147483647 := hS 3021
        refine tt_cl (by omega) rfl (k_plain2 (Zi := Zi) (D := D) (s := (us (us s 3019 j2) 3020 j8)) (p := p) (c := c) (by omega) (bS_us (bS_us hS (show -2147483648 ≤ j2 ∧ j2 ≤ 2147483647 by omega)) (show -2147483648 ≤ j8 ∧ j8 ≤ 2147483647 by omega)) hC (s 3021) j8 (by omega) (by omega)) ?_
        rintro _ _ ⟨r76, rfl, rfl, b77, k78⟩
        show tt Zi d 144 (281, [some (.inr (.inl 30)), some (.inr (.inl 46)), some (.inl bits), some (.inl nr), some (.inl top), some (.inl f_), none], [.inl r76, .inr (.inl 30)], n, D, (us (us s 3019 j2) 3020 j8), p, c) _
        replace k78 : r76 = zPl (s 3021) j8 ((s 3017)) := k78
        have b79 : 0 ≤ (s 3017) ∧ (s 3017) ≤ 65535 := hS 3017
        have kpl := k78
        refine tt_k 1 (S' := (287, [some (.inr (.inl 30)), some (.inr (.inl 46)), some (.inl bits), some (.inl nr), some (.inl top), some (.inl f_), none], [.inl r76, .inr (.inl 30)], n, D, (us (us s 3019 j2) 3020 j8), p, c)) rfl ?_
        exact K15 r76  (by omega) (by unfold zT3; first | (rw [if_neg (by omega)]; omega) | (rw [if_pos (by omega), ← b12, ← hp4, ← hp1]; first | exact kpl | (rw [hp0] at kpl; exact kpl))) (trivial)
    refine tz_ne (x := (c 46 (2 : Int).toNat)) rfl rfl (by omega) (fun h80 => ?_) (fun h80 => ?_)
    · show tt Zi d 144 (256, [some (.inr (.inl 30)), some (.inr (.inl 46)), some (.inl bits), some (.inl nr), some (.inl top), some (.inl f_), none], [.inr (.inl 30)], n, D, (us s 3019 j2), p, c) _
      refine tt_k 2 (S' := (258, [some (.inr (.inl 30)), some (.inr (.inl 46)), some (.inl bits), some (.inl nr), some (.inl top), some (.inl f_), none], [.inl 2, .inr (.inl 46), .inr (.inl 30)], n, D, (us s 3019 j2), p, c)) rfl ?_
      refine tt_ildv (i := 2) (v := (c 46 (2 : Int).toNat)) rfl rfl (by omega) rfl ?_
      show tt Zi d 144 (259, [some (.inr (.inl 30)), some (.inr (.inl 46)), some (.inl bits), some (.inl nr), some (.inl top), some (.inl f_), none], [.inl (c 46 (2 : Int).toNat), .inr (.inl 30)], n, D, (us s 3019 j2), p, c) _
      exact K9 (c 46 (2 : Int).toNat)  (by omega) (by unfold zT2; first | (rw [if_neg (by omega)]; omega) | (rw [if_pos (by omega), ← b6, ← hp3, ← hp1]; first | exact kpl | (rw [hp0] at kpl; exact kpl))) (trivial)
    · show tt Zi d 144 (241, [some (.inr (.inl 30)), some (.inr (.inl 46)), some (.inl bits), some (.inl nr), some (.inl top), some (.inl f_), none], [.inr (.inl 30)], n, D, (us s 3019 j2), p, c) _
      refine tt_k 5 (S' := (250, [some (.inr (.inl 30)), some (.inr (.inl 46)), some (.inl bits), some (.inl nr), some (.inl top), some (.inl f_), none], [.inl j2, .inl (s 3020), .inr (.inl 30), .inr (.inl 30)], n, D, (us s 3019 j2), p, c)) rfl ?_
      have b81 : -2147483648 ≤ (s 3020) ∧ (s 3020) ≤ 2147483647 := hS 3020
      refine tt_cl (by omega) rfl (k_plain2 (Zi := Zi) (D := D) (s := (us s 3019 j2)) (p := p) (c := c) (by omega) (bS_us hS (show -2147483648 ≤ j2 ∧ j2 ≤ 2147483647 by omega)) hC (s 3020) j2 (by omega) (by omega)) ?_
      rintro _ _ ⟨r82, rfl, rfl, b83, k84⟩
      show tt Zi d 144 (253, [some (.inr (.inl 30)), some (.inr (.inl 46)), some (.inl bits), some (.inl nr), some (.inl top), some (.inl f_), none], [.inl r82, .inr (.inl 30)], n, D, (us s 3019 j2), p, c) _
      replace k84 : r82 = zPl (s 3020) j2 ((s 3017)) := k84
      have b85 : 0 ≤ (s 3017) ∧ (s 3017) ≤ 65535 := hS 3017
      have kpl := k84
      refine tt_k 1 (S' := (259, [some (.inr (.inl 30)), some (.inr (.inl 46)), some (.inl bits), some (.inl nr), some (.inl top), some (.inl f_), none], [.inl r82, .inr (.inl 30)], n, D, (us s 3019 j2), p, c)) rfl ?_
      exact K9 r82  (by omega) (by unfold zT2; first | (rw [if_neg (by omega)]; omega) | (rw [if_pos (by omega), ← b6, ← hp3, ← hp1]; first | exact kpl | (rw [hp0] at kpl; exact kpl))) (trivial)
  refine tz_ne (x := (c 46 (1 : Int).toNat)) rfl rfl (by omega) (fun h86 => ?_) (fun h86 => ?_)
  · show tt Zi d 144 (228, [some (.inr (.inl 30)), some (.inr (.inl 46)), some (.inl bits), some (.inl nr), some (.inl top), some (.inl f_), none], [.inr (.inl 30)], n, D, s, p, c) _
    refine tt_k 2 (S' := (230, [some (.inr (.inl 30)), some (.inr (.inl 46)), some (.inl bits), some (.inl nr), some (.inl top), some (.inl f_), none], [.inl 1, .inr (.inl 46), .inr (.inl 30)], n, D, s, p, c)) rfl ?_
    refine tt_ildv (i := 1) (v := (c 46 (1 : Int).toNat)) rfl rfl (by omega) rfl ?_
    show tt Zi d 144 (231, [some (.inr (.inl 30)), some (.inr (.inl 46)), some (.inl bits), some (.inl nr), some (.inl top), some (.inl f_), none], [.inl (c 46 (1 : Int).toNat), .inr (.inl 30)], n, D, s, p, c) _
    exact K3 (c 46 (1 : Int).toNat)  (by omega) (by unfold zT1; first | (rw [if_neg (by omega)]; omega) | (rw [if_pos (by omega), ← hp2, ← hp1]; first | exact kpl | (rw [hp0] at kpl; exact kpl))) (trivial)
  · show tt Zi d 144 (211, [some (.inr (.inl 30)), some (.inr (.inl 46)), some (.inl bits), some (.inl nr), some (.inl top), some (.inl f_), none], [.inr (.inl 30)], n, D, s, p, c) _
    refine tt_k 7 (S' := (222, [some (.inr (.inl 30)), some (.inr (.inl 46)), some (.inl bits), some (.inl nr), some (.inl top), some (.inl f_), none], [.inl ((s 3018) + 1), .inl (s 3019), .inr (.inl 30), .inr (.inl 30)], n, D, s, p, c)) rfl ?_
    have b87 : -2147483648 ≤ (s 3019) ∧ (s 3019) ≤ 2147483647 := hS 3019
    have b88 : -2147483648 ≤ (s 3018) ∧ (s 3018) ≤ 2147483647 := hS 3018
    refine tt_cl (by omega) rfl (k_plain2 (Zi := Zi) (D := D) (s := s) (p := p) (c := c) (by omega) hS hC (s 3019) ((s 3018) + 1) (by omega) (by omega)) ?_
    rintro _ _ ⟨r89, rfl, rfl, b90, k91⟩
    show tt Zi d 144 (225, [some (.inr (.inl 30)), some (.inr (.inl 46)), some (.inl bits), some (.inl nr), some (.inl top), some (.inl f_), none], [.inl r89, .inr (.inl 30)], n, D, s, p, c) _
    replace k91 : r89 = zPl (s 3019) ((s 3018) + 1) ((s 3017)) := k91
    have b92 : 0 ≤ (s 3017) ∧ (s 3017) ≤ 65535 := hS 3017
    have kpl := k91
    refine tt_k 1 (S' := (231, [some (.inr (.inl 30)), some (.inr (.inl 46)), some (.inl bits), some (.inl nr), some (.inl top), some (.inl f_), none], [.inl r89, .inr (.inl 30)], n, D, s, p, c)) rfl ?_
    exact K3 r89  (by omega) (by unfold zT1; first | (rw [if_neg (by omega)]; omega) | (rw [if_pos (by omega), ← hp2, ← hp1]; first | exact kpl | (rw [hp0] at kpl; exact kpl))) (trivial)
set_option maxRecDepth 100000 in
set_option maxHeartbeats 4000000 in
theorem x_measAR {Zi : Nat → Option (Nat × (Nat → Int))} {d n : Nat} {D : Nat → Nat × Nat} {s : Nat → Int} {p : Nat → Nat} {c : Nat → Nat → Int} (hd : 2 ≤ d) (hS : bS s) (hC : bC D c) (bits : Int) (nr : Int) (b_bits : 2 ≤ bits ∧ bits ≤ 16) (b_nr : 0 ≤ nr ∧ nr ≤ 255) : tt Zi d 144 (0, [some (.inr (.inl 30)), some (.inr (.inl 46)), some (.inl bits), some (.inl nr), none, none, none], [], n, D, s, p, c) (fun R H => ∃ (s' : Nat → Int) (r : Int), R = .inl (some (.inl r)) ∧ H = (n, D, s', p, c) ∧ bS s' ∧ fr s s' [3017, 3018, 3019, 3020, 3021, 3022, 3023, 3024, 3025, 3026] ∧ (0 ≤ r ∧ r ≤ 1) ∧ ((r = 1 ∧ VM (c 46 0) (c 46 1) (c 46 2) (c 46 3) (c 46 4) bits nr ∧ zq (ZM (c 46 0) (c 46 1) (c 46 2) (c 46 3) (c 46 4) bits nr) (s' 3017) (s' 3018) (s' 3019) (s' 3020) (s' 3021) (s' 3022) (s' 3023) (s' 3024) (s' 3025) (s' 3026)) ∨ (r = 0 ∧ ¬ VM (c 46 0) (c 46 1) (c 46 2) (c 46 3) (c 46 4) bits nr))) := by
  have e1 : 4 ≤ (mi_shl 1 bits) ∧ (mi_shl 1 bits) ≤ 65536 := mi_shl1b 2 16 (by omega) (by omega) (by decide)
  have r0_ : c 46 (0 : Int).toNat = c 46 0 := rfl
  have r1_ : c 46 (1 : Int).toNat = c 46 1 := rfl
  have r2_ : c 46 (2 : Int).toNat = c 46 2 := rfl
  have r3_ : c 46 (3 : Int).toNat = c 46 3 := rfl
  have r4_ : c 46 (4 : Int).toNat = c 46 4 := rfl
  have hsh := mi_shl1i (k := bits) (by omega) (by omega)
  have hpb := pw_bits (b := bits) (by omega)
  refine tt_k 9 (S' := (10, [some (.inr (.inl 30)), some (.inr (.inl 46)), some (.inl bits), some (.inl nr), some (.inl ((mi_shl 1 bits) - 1)), none, none], [.inl 0, .inr (.inl 46), .inr (.inl 30)], n, D, s, p, c)) rfl ?_
  refine tt_ildv (i := 0) (v := (c 46 (0 : Int).toNat)) rfl rfl (by omega) rfl ?_
  show tt Zi d 144 (11, [some (.inr (.inl 30)), some (.inr (.inl 46)), some (.inl bits), some (.inl nr), some (.inl ((mi_shl 1 bits) - 1)), none, none], [.inl (c 46 (0 : Int).toNat), .inr (.inl 30)], n, D, s, p, c) _
  have b2 : 0 ≤ (c 46 (0 : Int).toNat) ∧ (c 46 (0 : Int).toNat) ≤ 65535 := hC 46 _
  have K4 : ∀ (j3 : Int) , (1 ≤ j3 ∧ j3 ≤ 65535) → (j3 = (zMo (c 46 0) bits)) → (1 ≤ j3) → (True) → tt Zi d 144 (22, [some (.inr (.inl 30)), some (.inr (.inl 46)), some (.inl bits), some (.inl nr), some (.inl ((mi_shl 1 bits) - 1)), none, none], [.inl j3, .inr (.inl 30)], n, D, s, p, c) (fun R H => ∃ (s' : Nat → Int) (r : Int), R = .inl (some (.inl r)) ∧ H = (n, D, s', p, c) ∧ bS s' ∧ fr s s' [3017, 3018, 3019, 3020, 3021, 3022, 3023, 3024, 3025, 3026] ∧ (0 ≤ r ∧ r ≤ 1) ∧ ((r = 1 ∧ VM (c 46 0) (c 46 1) (c 46 2) (c 46 3) (c 46 4) bits nr ∧ zq (ZM (c 46 0) (c 46 1) (c 46 2) (c 46 3) (c 46 4) bits nr) (s' 3017) (s' 3018) (s' 3019) (s' 3020) (s' 3021) (s' 3022) (s' 3023) (s' 3024) (s' 3025) (s' 3026)) ∨ (r = 0 ∧ ¬ VM (c 46 0) (c 46 1) (c 46 2) (c 46 3) (c 46 4) bits nr))) := by
    intro j3 b6 b7 b8 hj5
    refine tt_k 7 (S' := (33, [some (.inr (.inl 30)), some (.inr (.inl 46)), some (.inl bits), some (.inl nr), some (.inl ((mi_shl 1 bits) - 1)), none, none], [.inl 4, .inr (.inl 46), .inr (.inl 30)], n, D, (us (us s 3017 j3) 3018 nr), p, c)) rfl ?_
    refine tt_ildv (i := 4) (v := (c 46 (4 : Int).toNat)) rfl rfl (by omega) rfl ?_
    show tt Zi d 144 (34, [some (.inr (.inl 30)), some (.inr (.inl 46)), some (.inl bits), some (.inl nr), some (.inl ((mi_shl 1 bits) - 1)), none, none], [.inl (c 46 (4 : Int).toNat), .inr (.inl 30)], n, D, (us (us s 3017 j3) 3018 nr), p, c) _
    have b9 : 0 ≤ (c 46 (4 : Int).toNat) ∧ (c 46 (4 : Int).toNat) ≤ 65535 := hC 46 _
    have K11 : ∀ (j10 : Int) , (1 ≤ j10 ∧ j10 ≤ 65535) → (j10 = zHa (c 46 4)) → (True) → tt Zi d 144 (45, [some (.inr (.inl 30)), some (.inr (.inl 46)), some (.inl bits), some (.inl nr), some (.inl ((mi_shl 1 bits) - 1)), none, none], [.inl j10, .inr (.inl 30)], n, D, (us (us s 3017 j3) 3018 nr), p, c) (fun R H => ∃ (s' : Nat → Int) (r : Int), R = .inl (some (.inl r)) ∧ H = (n, D, s', p, c) ∧ bS s' ∧ fr s s' [3017, 3018, 3019, 3020, 3021, 3022, 3023, 3024, 3025, 3026] ∧ (0 ≤ r ∧ r ≤ 1) ∧ ((r = 1 ∧ VM (c 46 0) (c 46 1) (c 46 2) (c 46 3) (c 46 4) bits nr ∧ zq (ZM (c 46 0) (c 46 1) (c 46 2) (c 46 3) (c 46 4) bits nr) (s' 3017) (s' 3018) (s' 3019) (s' 3020) (s' 3021) (s' 3022) (s' 3023) (s' 3024) (s' 3025) (s' 3026)) ∨ (r = 0 ∧ ¬ VM (c 46 0) (c 46 1) (c 46 2) (c 46 3) (c 46 4) bits nr))) := by
      intro j10 b13 b14 hj12
      refine tt_k 4 (S' := (55, [some (.inr (.inl 30)), some (.inr (.inl 46)), some (.inl bits), some (.inl nr), some (.inl ((mi_shl 1 bits) - 1)), none, none], [.inl 128, .inl j3], n, D, (us (us (us s 3017 j3) 3018 nr) 3022 j10), p, c)) rfl ?_
      refine tb_ge (x := j3) (y := 128) rfl rfl (by omega) (fun h15 => ?_) (fun h15 => ?_)
      · show tt Zi d 144 (133, [some (.inr (.inl 30)), some (.inr (.inl 46)), some (.inl bits), some (.inl nr), some (.inl ((mi_shl 1 bits) - 1)), none, none], [], n, D, (us (us (us s 3017 j3) 3018 nr) 3022 j10), p, c) _
        refine tt_k 3 (S' := (140, [some (.inr (.inl 30)), some (.inr (.inl 46)), some (.inl bits), some (.inl nr), some (.inl ((mi_shl 1 bits) - 1)), none, none], [.inl 4095, .inl j3], n, D, (us (us (us s 3017 j3) 3018 nr) 3022 j10), p, c)) rfl ?_
        refine tt_cl (by omega) rfl (k_less (Zi := Zi) (D := D) (s := (us (us (us s 3017 j3) 3018 nr) 3022 j10)) (p := p) (c := c) (by omega) (bS_us (bS_us (bS_us hS (show 0 ≤ j3 ∧ j3 ≤ 65535 by omega)) (show -2147483648 ≤ nr ∧ nr ≤ 2147483647 by omega)) (show 0 ≤ j10 ∧ j10 ≤ 65535 by omega)) hC j3 4095 (by omega) (by omega)) ?_
        rintro _ _ ⟨r16, rfl, rfl, b17, k18⟩
        show tt Zi d 144 (143, [some (.inr (.inl 30)), some (.inr (.inl 46)), some (.inl bits), some (.inl nr), some (.inl ((mi_shl 1 bits) - 1)), none, none], [.inl r16], n, D, (us (us (us s 3017 j3) 3018 nr) 3022 j10), p, c) _
        replace k18 : r16 = min j3 4095 := k18
        subst k18
        show tt Zi d 144 (143, [some (.inr (.inl 30)), some (.inr (.inl 46)), some (.inl bits), some (.inl nr), some (.inl ((mi_shl 1 bits) - 1)), none, none], [.inl (min j3 4095)], n, D, (us (us (us s 3017 j3) 3018 nr) 3022 j10), p, c) _
        refine tt_k 3 (S' := (150, [some (.inr (.inl 30)), some (.inr (.inl 46)), some (.inl bits), some (.inl nr), some (.inl ((mi_shl 1 bits) - 1)), none, none], [.inl 256, .inl ((min j3 4095) + 128)], n, D, (us (us (us s 3017 j3) 3018 nr) 3022 j10), p, c)) rfl ?_
        refine tt_dvp (x := ((min j3 4095) + 128)) (y := 256) rfl (by omega) ?_
        show tt Zi d 144 (151, [some (.inr (.inl 30)), some (.inr (.inl 46)), some (.inl bits), some (.inl nr), some (.inl ((mi_shl 1 bits) - 1)), none, none], [.inl ((((min j3 4095) + 128) / 256))], n, D, (us (us (us s 3017 j3) 3018 nr) 3022 j10), p, c) _
        refine tt_k 14 (S' := (172, [some (.inr (.inl 30)), some (.inr (.inl 46)), some (.inl bits), some (.inl nr), some (.inl ((mi_shl 1 bits) - 1)), some (.inl ((((min j3 4095) + 128) / 256))), none], [.inl ((((min j3 4095) + 128) / 256)), .inl 4, .inr (.inl 30)], n, D, (us (us (us (us s 3017 j3) 3018 nr) 3022 j10) 3019 ((((((min j3 4095) + 128) / 256) + 2) + (3 * nr)))), p, c)) rfl ?_
        refine tt_k 14 (S' := (192, [some (.inr (.inl 30)), some (.inr (.inl 46)), some (.inl bits), some (.inl nr), some (.inl ((mi_shl 1 bits) - 1)), some (.inl ((((min j3 4095) + 128) / 256))), none], [.inl 4, .inl ((17 * (((min j3 4095) + 128) / 256))), .inr (.inl 30)], n, D, (us (us (us (us (us s 3017 j3) 3018 nr) 3022 j10) 3019 ((((((min j3 4095) + 128) / 256) + 2) + (3 * nr)))) 3020 ((((4 * (((min j3 4095) + 128) / 256)) + 3) + (5 * nr)))), p, c)) rfl ?_
        refine tt_k 7 (S' := (204, [some (.inr (.inl 30)), some (.inr (.inl 46)), some (.inl bits), some (.inl nr), some (.inl ((mi_shl 1 bits) - 1)), some (.inl ((((min j3 4095) + 128) / 256))), none], [], n, D, (us (us (us (us (us (us s 3017 j3) 3018 nr) 3022 j10) 3019 ((((((min j3 4095) + 128) / 256) + 2) + (3 * nr)))) 3020 ((((4 * (((min j3 4095) + 128) / 256)) + 3) + (5 * nr)))) 3021 ((((17 * (((min j3 4095) + 128) / 256)) + 4) + (7 * nr)))), p, c)) rfl ?_
        refine tt_mono (x_measCR (Zi := Zi) (D := D) (s := (us (us (us (us (us (us s 3017 j3) 3018 nr) 3022 j10) 3019 ((((((min j3 4095) + 128) / 256) + 2) + (3 * nr)))) 3020 ((((4 * (((min j3 4095) + 128) / 256)) + 3) + (5 * nr)))) 3021 ((((17 * (((min j3 4095) + 128) / 256)) + 4) + (7 * nr))))) (p := p) (c := c) (by omega) (bS_us (bS_us (bS_us (bS_us (bS_us (bS_us hS (show 0 ≤ j3 ∧ j3 ≤ 65535 by omega)) (show -2147483648 ≤ nr ∧ nr ≤ 2147483647 by omega)) (show 0 ≤ j10 ∧ j10 ≤ 65535 by omega)) (show -2147483648 ≤ (((((min j3 4095) + 128) / 256) + 2) + (3 * nr)) ∧ (((((min j3 4095) + 128) / 256) + 2) + (3 * nr)) ≤ 2147483647 by omega)) (show -2147483648 ≤ (((4 * (((min j3 4095) + 128) / 256)) + 3) + (5 * nr)) ∧ (((4 * (((min j3 4095) + 128) / 256)) + 3) + (5 * nr)) ≤ 2147483647 by omega)) (show -2147483648 ≤ (((17 * (((min j3 4095) + 128) / 256)) + 4) + (7 * nr)) ∧ (((17 * (((min j3 4095) + 128) / 256)) + 4) + (7 * nr)) ≤ 2147483647 by omega)) hC bits nr ((mi_shl 1 bits) - 1) ((((min j3 4095) + 128) / 256)) (by omega) (by omega) (by omega) (show nr = nr by omega) b7 (by show (((((min j3 4095) + 128) / 256) + 2) + (3 * nr)) = _; rw [← b7]; unfold zPt; first | (rw [if_neg (show ¬ j3 < 128 by omega)]; omega) | rw [if_neg (show ¬ j3 < 128 by omega)]) (by show (((4 * (((min j3 4095) + 128) / 256)) + 3) + (5 * nr)) = _; rw [← b7]; unfold zPt; first | (rw [if_neg (show ¬ j3 < 128 by omega)]; omega) | rw [if_neg (show ¬ j3 < 128 by omega)]) (by show (((17 * (((min j3 4095) + 128) / 256)) + 4) + (7 * nr)) = _; rw [← b7]; unfold zPt; first | (rw [if_neg (show ¬ j3 < 128 by omega)]; omega) | rw [if_neg (show ¬ j3 < 128 by omega)]) b14 (by omega)) ?_
        rintro _ _ ⟨s19, r20, rfl, rfl, hS19, f21, b22, k23⟩
        exact ⟨s19, r20, rfl, rfl, hS19, (fr_tr (fr_us (by decide) (fr_us (by decide) (fr_us (by decide) (fr_us (by decide) (fr_us (by decide) (fr_us (by decide) fr_rf)))))) f21 (by decide)), by omega, k23⟩
      · show tt Zi d 144 (58, [some (.inr (.inl 30)), some (.inr (.inl 46)), some (.inl bits), some (.inl nr), some (.inl ((mi_shl 1 bits) - 1)), none, none], [], n, D, (us (us (us s 3017 j3) 3018 nr) 3022 j10), p, c) _
        refine tt_k 5 (S' := (67, [some (.inr (.inl 30)), some (.inr (.inl 46)), some (.inl bits), some (.inl nr), some (.inl ((mi_shl 1 bits) - 1)), none, none], [.inl (j3 + 1), .inl 256], n, D, (us (us (us s 3017 j3) 3018 nr) 3022 j10), p, c)) rfl ?_
        refine tt_dvp (x := 256) (y := (j3 + 1)) rfl (by omega) ?_
        show tt Zi d 144 (68, [some (.inr (.inl 30)), some (.inr (.inl 46)), some (.inl bits), some (.inl nr), some (.inl ((mi_shl 1 bits) - 1)), none, none], [.inl (256 / (j3 + 1))], n, D, (us (us (us s 3017 j3) 3018 nr) 3022 j10), p, c) _
        have b24 : 0 ≤ (256 / (j3 + 1)) ∧ (256 / (j3 + 1)) ≤ 256 := td_le (by omega) (by omega)
        have b25 : 1 ≤ (256 / (j3 + 1)) := dv_ge1 (by omega) (by omega)
        refine tt_k 5 (S' := (75, [some (.inr (.inl 30)), some (.inr (.inl 46)), some (.inl bits), some (.inl nr), some (.inl ((mi_shl 1 bits) - 1)), some (.inl (256 / (j3 + 1))), none], [.inl (256 / (j3 + 1)), .inl 3, .inl 2, .inr (.inl 30)], n, D, (us (us (us s 3017 j3) 3018 nr) 3022 j10), p, c)) rfl ?_
        refine tt_dvp (x := 3) (y := (256 / (j3 + 1))) rfl (by omega) ?_
        show tt Zi d 144 (76, [some (.inr (.inl 30)), some (.inr (.inl 46)), some (.inl bits), some (.inl nr), some (.inl ((mi_shl 1 bits) - 1)), some (.inl (256 / (j3 + 1))), none], [.inl ((3 / (256 / (j3 + 1)))), .inl 2, .inr (.inl 30)], n, D, (us (us (us s 3017 j3) 3018 nr) 3022 j10), p, c) _
        have b26 : 0 ≤ (3 / (256 / (j3 + 1))) ∧ (3 / (256 / (j3 + 1))) ≤ 3 := td_le (by omega) (by omega)
        refine tt_k 5 (S' := (83, [some (.inr (.inl 30)), some (.inr (.inl 46)), some (.inl bits), some (.inl nr), some (.inl ((mi_shl 1 bits) - 1)), some (.inl (256 / (j3 + 1))), none], [.inl (((3 / (256 / (j3 + 1))) + (3 * nr))), .inl 2, .inr (.inl 30)], n, D, (us (us (us s 3017 j3) 3018 nr) 3022 j10), p, c)) rfl ?_
        refine tt_cl (by omega) rfl (k_more (Zi := Zi) (D := D) (s := (us (us (us s 3017 j3) 3018 nr) 3022 j10)) (p := p) (c := c) (by omega) (bS_us (bS_us (bS_us hS (show 0 ≤ j3 ∧ j3 ≤ 65535 by omega)) (show -2147483648 ≤ nr ∧ nr ≤ 2147483647 by omega)) (show 0 ≤ j10 ∧ j10 ≤ 65535 by omega)) hC 2 (((3 / (256 / (j3 + 1))) + (3 * nr))) (by omega) (by omega)) ?_
        rintro _ _ ⟨r27, rfl, rfl, b28, k29⟩
        show tt Zi d 144 (86, [some (.inr (.inl 30)), some (.inr (.inl 46)), some (.inl bits), some (.inl nr), some (.inl ((mi_shl 1 bits) - 1)), some (.inl (256 / (j3 + 1))), none], [.inl r27, .inr (.inl 30)], n, D, (us (us (us s 3017 j3) 3018 nr) 3022 j10), p, c) _
        replace k29 : r27 = max 2 (((3 / (256 / (j3 + 1))) + (3 * nr))) := k29
        subst k29
        show tt Zi d 144 (86, [some (.inr (.inl 30)), some (.inr (.inl 46)), some (.inl bits), some (.inl nr), some (.inl ((mi_shl 1 bits) - 1)), some (.inl (256 / (j3 + 1))), none], [.inl ((max 2 (((3 / (256 / (j3 + 1))) + (3 * nr))))), .inr (.inl 30)], n, D, (us (us (us s 3017 j3) 3018 nr) 3022 j10), p, c) _
        refine tt_k 5 (S' := (95, [some (.inr (.inl 30)), some (.inr (.inl 46)), some (.inl bits), some (.inl nr), some (.inl ((mi_shl 1 bits) - 1)), some (.inl (256 / (j3 + 1))), none], [.inl (256 / (j3 + 1)), .inl 7, .inl 3, .inr (.inl 30)], n, D, (us (us (us (us s 3017 j3) 3018 nr) 3022 j10) 3019 ((max 2 (((3 / (256 / (j3 + 1))) + (3 * nr)))))), p, c)) rfl ?_
        refine tt_dvp (x := 7) (y := (256 / (j3 + 1))) rfl (by omega) ?_
        show tt Zi d 144 (96, [some (.inr (.inl 30)), some (.inr (.inl 46)), some (.inl bits), some (.inl nr), some (.inl ((mi_shl 1 bits) - 1)), some (.inl (256 / (j3 + 1))), none], [.inl ((7 / (256 / (j3 + 1)))), .inl 3, .inr (.inl 30)], n, D, (us (us (us (us s 3017 j3) 3018 nr) 3022 j10) 3019 ((max 2 (((3 / (256 / (j3 + 1))) + (3 * nr)))))), p, c) _
        have b30 : 0 ≤ (7 / (256 / (j3 + 1))) ∧ (7 / (256 / (j3 + 1))) ≤ 7 := td_le (by omega) (by omega)
        refine tt_k 5 (S' := (103, [some (.inr (.inl 30)), some (.inr (.inl 46)), some (.inl bits), some (.inl nr), some (.inl ((mi_shl 1 bits) - 1)), some (.inl (256 / (j3 + 1))), none], [.inl (((7 / (256 / (j3 + 1))) + (5 * nr))), .inl 3, .inr (.inl 30)], n, D, (us (us (us (us s 3017 j3) 3018 nr) 3022 j10) 3019 ((max 2 (((3 / (256 / (j3 + 1))) + (3 * nr)))))), p, c)) rfl ?_
        refine tt_cl (by omega) rfl (k_more (Zi := Zi) (D := D) (s := (us (us (us (us s 3017 j3) 3018 nr) 3022 j10) 3019 ((max 2 (((3 / (256 / (j3 + 1))) + (3 * nr))))))) (p := p) (c := c) (by omega) (bS_us (bS_us (bS_us (bS_us hS (show 0 ≤ j3 ∧ j3 ≤ 65535 by omega)) (show -2147483648 ≤ nr ∧ nr ≤ 2147483647 by omega)) (show 0 ≤ j10 ∧ j10 ≤ 65535 by omega)) (show -2147483648 ≤ (max 2 (((3 / (256 / (j3 + 1))) + (3 * nr)))) ∧ (max 2 (((3 / (256 / (j3 + 1))) + (3 * nr)))) ≤ 2147483647 by omega)) hC 3 (((7 / (256 / (j3 + 1))) + (5 * nr))) (by omega) (by omega)) ?_
        rintro _ _ ⟨r31, rfl, rfl, b32, k33⟩
        show tt Zi d 144 (106, [some (.inr (.inl 30)), some (.inr (.inl 46)), some (.inl bits), some (.inl nr), some (.inl ((mi_shl 1 bits) - 1)), some (.inl (256 / (j3 + 1))), none], [.inl r31, .inr (.inl 30)], n, D, (us (us (us (us s 3017 j3) 3018 nr) 3022 j10) 3019 ((max 2 (((3 / (256 / (j3 + 1))) + (3 * nr)))))), p, c) _
        replace k33 : r31 = max 3 (((7 / (256 / (j3 + 1))) + (5 * nr))) := k33
        subst k33
        show tt Zi d 144 (106, [some (.inr (.inl 30)), some (.inr (.inl 46)), some (.inl bits), some (.inl nr), some (.inl ((mi_shl 1 bits) - 1)), some (.inl (256 / (j3 + 1))), none], [.inl ((max 3 (((7 / (256 / (j3 + 1))) + (5 * nr))))), .inr (.inl 30)], n, D, (us (us (us (us s 3017 j3) 3018 nr) 3022 j10) 3019 ((max 2 (((3 / (256 / (j3 + 1))) + (3 * nr)))))), p, c) _
        refine tt_k 5 (S' := (115, [some (.inr (.inl 30)), some (.inr (.inl 46)), some (.inl bits), some (.inl nr), some (.inl ((mi_shl 1 bits) - 1)), some (.inl (256 / (j3 + 1))), none], [.inl (256 / (j3 + 1)), .inl 21, .inl 4, .inr (.inl 30)], n, D, (us (us (us (us (us s 3017 j3) 3018 nr) 3022 j10) 3019 ((max 2 (((3 / (256 / (j3 + 1))) + (3 * nr)))))) 3020 ((max 3 (((7 / (256 / (j3 + 1))) + (5 * nr)))))), p, c)) rfl ?_
        refine tt_dvp (x := 21) (y := (256 / (j3 + 1))) rfl (by omega) ?_
        show tt Zi d 144 (116, [some (.inr (.inl 30)), some (.inr (.inl 46)), some (.inl bits), some (.inl nr), some (.inl ((mi_shl 1 bits) - 1)), some (.inl (256 / (j3 + 1))), none], [.inl ((21 / (256 / (j3 + 1)))), .inl 4, .inr (.inl 30)], n, D, (us (us (us (us (us s 3017 j3) 3018 nr) 3022 j10) 3019 ((max 2 (((3 / (256 / (j3 + 1))) + (3 * nr)))))) 3020 ((max 3 (((7 / (256 / (j3 + 1))) + (5 * nr)))))), p, c) _
        have b34 : 0 ≤ (21 / (256 / (j3 + 1))) ∧ (21 / (256 / (j3 + 1))) ≤ 21 := td_le (by omega) (by omega)
        refine tt_k 5 (S' := (124, [some (.inr (.inl 30)), some (.inr (.inl 46)), some (.inl bits), some (.inl nr), some (.inl ((mi_shl 1 bits) - 1)), some (.inl (256 / (j3 + 1))), none], [.inl (((21 / (256 / (j3 + 1))) + (7 * nr))), .inl 4, .inr (.inl 30)], n, D, (us (us (us (us (us s 3017 j3) 3018 nr) 3022 j10) 3019 ((max 2 (((3 / (256 / (j3 + 1))) + (3 * nr)))))) 3020 ((max 3 (((7 / (256 / (j3 + 1))) + (5 * nr)))))), p, c)) rfl ?_
        refine tt_cl (by omega) rfl (k_more (Zi := Zi) (D := D) (s := (us (us (us (us (us s 3017 j3) 3018 nr) 3022 j10) 3019 ((max 2 (((3 / (256 / (j3 + 1))) + (3 * nr)))))) 3020 ((max 3 (((7 / (256 / (j3 + 1))) + (5 * nr))))))) (p := p) (c := c) (by omega) (bS_us (bS_us (bS_us (bS_us (bS_us hS (show 0 ≤ j3 ∧ j3 ≤ 65535 by omega)) (show -2147483648 ≤ nr ∧ nr ≤ 2147483647 by omega)) (show 0 ≤ j10 ∧ j10 ≤ 65535 by omega)) (show -2147483648 ≤ (max 2 (((3 / (256 / (j3 + 1))) + (3 * nr)))) ∧ (max 2 (((3 / (256 / (j3 + 1))) + (3 * nr)))) ≤ 2147483647 by omega)) (show -2147483648 ≤ (max 3 (((7 / (256 / (j3 + 1))) + (5 * nr)))) ∧ (max 3 (((7 / (256 / (j3 + 1))) + (5 * nr)))) ≤ 2147483647 by omega)) hC 4 (((21 / (256 / (j3 + 1))) + (7 * nr))) (by omega) (by omega)) ?_
        rintro _ _ ⟨r35, rfl, rfl, b36, k37⟩
        show tt Zi d 144 (127, [some (.inr (.inl 30)), some (.inr (.inl 46)), some (.inl bits), some (.inl nr), some (.inl ((mi_shl 1 bits) - 1)), some (.inl (256 / (j3 + 1))), none], [.inl r35, .inr (.inl 30)], n, D, (us (us (us (us (us s 3017 j3) 3018 nr) 3022 j10) 3019 ((max 2 (((3 / (256 / (j3 + 1))) + (3 * nr)))))) 3020 ((max 3 (((7 / (256 / (j3 + 1))) + (5 * nr)))))), p, c) _
        replace k37 : r35 = max 4 (((21 / (256 / (j3 + 1))) + (7 * nr))) := k37
        subst k37
        show tt Zi d 144 (127, [some (.inr (.inl 30)), some (.inr (.inl 46)), some (.inl bits), some (.inl nr), some (.inl ((mi_shl 1 bits) - 1)), some (.inl (256 / (j3 + 1))), none], [.inl ((max 4 (((21 / (256 / (j3 + 1))) + (7 * nr))))), .inr (.inl 30)], n, D, (us (us (us (us (us s 3017 j3) 3018 nr) 3022 j10) 3019 ((max 2 (((3 / (256 / (j3 + 1))) + (3 * nr)))))) 3020 ((max 3 (((7 / (256 / (j3 + 1))) + (5 * nr)))))), p, c) _
        refine tt_k 2 (S' := (204, [some (.inr (.inl 30)), some (.inr (.inl 46)), some (.inl bits), some (.inl nr), some (.inl ((mi_shl 1 bits) - 1)), some (.inl (256 / (j3 + 1))), none], [], n, D, (us (us (us (us (us (us s 3017 j3) 3018 nr) 3022 j10) 3019 ((max 2 (((3 / (256 / (j3 + 1))) + (3 * nr)))))) 3020 ((max 3 (((7 / (256 / (j3 + 1))) + (5 * nr)))))) 3021 ((max 4 (((21 / (256 / (j3 + 1))) + (7 * nr)))))), p, c)) rfl ?_
        refine tt_mono (x_measCR (Zi := Zi) (D := D) (s := (us (us (us (us (us (us s 3017 j3) 3018 nr) 3022 j10) 3019 ((max 2 (((3 / (256 / (j3 + 1))) + (3 * nr)))))) 3020 ((max 3 (((7 / (256 / (j3 + 1))) + (5 * nr)))))) 3021 ((max 4 (((21 / (256 / (j3 + 1))) + (7 * nr))))))) (p := p) (c := c) (by omega) (bS_us (bS_us (bS_us (bS_us (bS_us (bS_us hS (show 0 ≤ j3 ∧ j3 ≤ 65535 by omega)) (show -2147483648 ≤ nr ∧ nr ≤ 2147483647 by omega)) (show 0 ≤ j10 ∧ j10 ≤ 65535 by omega)) (show -2147483648 ≤ (max 2 (((3 / (256 / (j3 + 1))) + (3 * nr)))) ∧ (max 2 (((3 / (256 / (j3 + 1))) + (3 * nr)))) ≤ 2147483647 by omega)) (show -2147483648 ≤ (max 3 (((7 / (256 / (j3 + 1))) + (5 * nr)))) ∧ (max 3 (((7 / (256 / (j3 + 1))) + (5 * nr)))) ≤ 2147483647 by omega)) (show -2147483648 ≤ (max 4 (((21 / (256 / (j3 + 1))) + (7 * nr)))) ∧ (max 4 (((21 / (256 / (j3 + 1))) + (7 * nr)))) ≤ 2147483647 by omega)) hC bits nr ((mi_shl 1 bits) - 1) (256 / (j3 + 1)) (by omega) (by omega) (by omega) (show nr = nr by omega) b7 (by show (max 2 (((3 / (256 / (j3 + 1))) + (3 * nr)))) = _; rw [← b7]; unfold zPt; first | (rw [if_pos (show j3 < 128 by omega)]; omega) | rw [if_pos (show j3 < 128 by omega)]) (by show (max 3 (((7 / (256 / (j3 + 1))) + (5 * nr)))) = _; rw [← b7]; unfold zPt; first | (rw [if_pos (show j3 < 128 by omega)]; omega) | rw [if_pos (show j3 < 128 by omega)]) (by show (max 4 (((21 / (256 / (j3 + 1))) + (7 * nr)))) = _; rw [← b7]; unfold zPt; first | (rw [if_pos (show j3 < 128 by omega)]; omega) | rw [if_pos (show j3 < 128 by omega)]) b14 (by omega)) ?_
        rintro _ _ ⟨s38, r39, rfl, rfl, hS38, f40, b41, k42⟩
        exact ⟨s38, r39, rfl, rfl, hS38, (fr_tr (fr_us (by decide) (fr_us (by decide) (fr_us (by decide) (fr_us (by decide) (fr_us (by decide) (fr_us (by decide) fr_rf)))))) f40 (by decide)), by omega, k42⟩
    refine tz_ne (x := (c 46 (4 : Int).toNat)) rfl rfl (by omega) (fun h43 => ?_) (fun h43 => ?_)
    · show tt Zi d 144 (42, [some (.inr (.inl 30)), some (.inr (.inl 46)), some (.inl bits), some (.inl nr), some (.inl ((mi_shl 1 bits) - 1)), none, none], [.inr (.inl 30)], n, D, (us (us s 3017 j3) 3018 nr), p, c) _
      refine tt_k 2 (S' := (44, [some (.inr (.inl 30)), some (.inr (.inl 46)), some (.inl bits), some (.inl nr), some (.inl ((mi_shl 1 bits) - 1)), none, none], [.inl 4, .inr (.inl 46), .inr (.inl 30)], n, D, (us (us s 3017 j3) 3018 nr), p, c)) rfl ?_
      refine tt_ildv (i := 4) (v := (c 46 (4 : Int).toNat)) rfl rfl (by omega) rfl ?_
      show tt Zi d 144 (45, [some (.inr (.inl 30)), some (.inr (.inl 46)), some (.inl bits), some (.inl nr), some (.inl ((mi_shl 1 bits) - 1)), none, none], [.inl (c 46 (4 : Int).toNat), .inr (.inl 30)], n, D, (us (us s 3017 j3) 3018 nr), p, c) _
      exact K11 (c 46 (4 : Int).toNat)  (by omega) (by unfold zHa; first | (rw [if_neg (by omega)]; omega) | (rw [if_pos (by omega)])) (trivial)
    · show tt Zi d 144 (37, [some (.inr (.inl 30)), some (.inr (.inl 46)), some (.inl bits), some (.inl nr), some (.inl ((mi_shl 1 bits) - 1)), none, none], [.inr (.inl 30)], n, D, (us (us s 3017 j3) 3018 nr), p, c) _
      refine tt_k 2 (S' := (45, [some (.inr (.inl 30)), some (.inr (.inl 46)), some (.inl bits), some (.inl nr), some (.inl ((mi_shl 1 bits) - 1)), none, none], [.inl 64, .inr (.inl 30)], n, D, (us (us s 3017 j3) 3018 nr), p, c)) rfl ?_
      exact K11 64  (by omega) (by unfold zHa; first | (rw [if_neg (by omega)]; omega) | (rw [if_pos (by omega)])) (trivial)
  refine tz_ne (x := (c 46 (0 : Int).toNat)) rfl rfl (by omega) (fun h44 => ?_) (fun h44 => ?_)
  · show tt Zi d 144 (19, [some (.inr (.inl 30)), some (.inr (.inl 46)), some (.inl bits), some (.inl nr), some (.inl ((mi_shl 1 bits) - 1)), none, none], [.inr (.inl 30)], n, D, s, p, c) _
    refine tt_k 2 (S' := (21, [some (.inr (.inl 30)), some (.inr (.inl 46)), some (.inl bits), some (.inl nr), some (.inl ((mi_shl 1 bits) - 1)), none, none], [.inl 0, .inr (.inl 46), .inr (.inl 30)], n, D, s, p, c)) rfl ?_
    refine tt_ildv (i := 0) (v := (c 46 (0 : Int).toNat)) rfl rfl (by omega) rfl ?_
    show tt Zi d 144 (22, [some (.inr (.inl 30)), some (.inr (.inl 46)), some (.inl bits), some (.inl nr), some (.inl ((mi_shl 1 bits) - 1)), none, none], [.inl (c 46 (0 : Int).toNat), .inr (.inl 30)], n, D, s, p, c) _
    exact K4 (c 46 (0 : Int).toNat)  (by omega) (by unfold zMo; first | (rw [if_neg (by omega)]; omega) | (rw [if_pos (by omega)]; omega)) (by omega) (trivial)
  · show tt Zi d 144 (14, [some (.inr (.inl 30)), some (.inr (.inl 46)), some (.inl bits), some (.inl nr), some (.inl ((mi_shl 1 bits) - 1)), none, none], [.inr (.inl 30)], n, D, s, p, c) _
    refine tt_k 2 (S' := (22, [some (.inr (.inl 30)), some (.inr (.inl 46)), some (.inl bits), some (.inl nr), some (.inl ((mi_shl 1 bits) - 1)), none, none], [.inl ((mi_shl 1 bits) - 1), .inr (.inl 30)], n, D, s, p, c)) rfl ?_
    exact K4 ((mi_shl 1 bits) - 1)  (by omega) (by unfold zMo; first | (rw [if_neg (by omega)]; omega) | (rw [if_pos (by omega)]; omega)) (by omega) (trivial)
set_option maxRecDepth 100000 in
set_option maxHeartbeats 4000000 in
theorem x_measDR_L329 {Zi : Nat → Option (Nat × (Nat → Int))} {d n : Nat} {D : Nat → Nat × Nat} {s : Nat → Int} {p : Nat → Nat} {c : Nat → Nat → Int} {o_1 : Option mi_V} {o_2 : Option mi_V} {o_3 : Option mi_V} {o_4 : Option mi_V} {o_5 : Option mi_V} {o_6 : Option mi_V} {Q : mi_Rs → mi_H → Prop} (hd : 2 ≤ d) (hS : bS s) (hC : bC D c) (hq0 : s 3024 ≤ 65537)
  (hK : ∀ (s0 : Nat → Int) (hS0 : bS s0) (hF0 : fr s s0 [3025]) (i0 : 0 ≤ s0 3025 ∧ s0 3025 ≤ 17), (True) → tt Zi d 144 (355, [some (.inr (.inl 30)), o_1, o_2, o_3, o_4, o_5, o_6], [], n, D, s0, p, c) Q) :
  ∀ (m : Nat) (s0 : Nat → Int) (hS0 : bS s0) (hF0 : fr s s0 [3025]) (i0 : 0 ≤ s0 3025 ∧ s0 3025 ≤ 17), (18 - s0 3025).toNat < m → tt Zi d 144 (329, [some (.inr (.inl 30)), o_1, o_2, o_3, o_4, o_5, o_6], [], n, D, s0, p, c) Q := by
  intro m
  induction m with
  | zero => intro s0 hS0 hF0 i0 hm; exact absurd hm (by omega)
  | succ m ih =>
    intro s0 hS0 hF0 i0 hm
    have e1 : s0 3017 = s 3017 := hF0 3017 (by decide)
    have b2 : 0 ≤ (s0 3017) ∧ (s0 3017) ≤ 65535 := hS0 3017
    have b3 : 0 ≤ (s 3017) ∧ (s 3017) ≤ 65535 := hS 3017
    have e4 : s0 3018 = s 3018 := hF0 3018 (by decide)
    have b5 : -2147483648 ≤ (s0 3018) ∧ (s0 3018) ≤ 2147483647 := hS0 3018
    have b6 : -2147483648 ≤ (s 3018) ∧ (s 3018) ≤ 2147483647 := hS 3018
    have e7 : s0 3019 = s 3019 := hF0 3019 (by decide)
    have b8 : -2147483648 ≤ (s0 3019) ∧ (s0 3019) ≤ 2147483647 := hS0 3019
    have b9 : -2147483648 ≤ (s 3019) ∧ (s 3019) ≤ 2147483647 := hS 3019
    have e10 : s0 3020 = s 3020 := hF0 3020 (by decide)
    have b11 : -2147483648 ≤ (s0 3020) ∧ (s0 3020) ≤ 2147483647 := hS0 3020
    have b12 : -2147483648 ≤ (s 3020) ∧ (s 3020) ≤ 2147483647 := hS 3020
    have e13 : s0 3021 = s 3021 := hF0 3021 (by decide)
    have b14 : -2147483648 ≤ (s0 3021) ∧ (s0 3021) ≤ 2147483647 := hS0 3021
    have b15 : -2147483648 ≤ (s 3021) ∧ (s 3021) ≤ 2147483647 := hS 3021
    have e16 : s0 3022 = s 3022 := hF0 3022 (by decide)
    have b17 : 0 ≤ (s0 3022) ∧ (s0 3022) ≤ 65535 := hS0 3022
    have b18 : 0 ≤ (s 3022) ∧ (s 3022) ≤ 65535 := hS 3022
    have e19 : s0 3023 = s 3023 := hF0 3023 (by decide)
    have b20 : -2147483648 ≤ (s0 3023) ∧ (s0 3023) ≤ 2147483647 := hS0 3023
    have b21 : -2147483648 ≤ (s 3023) ∧ (s 3023) ≤ 2147483647 := hS 3023
    have e22 : s0 3024 = s 3024 := hF0 3024 (by decide)
    have b23 : -2147483648 ≤ (s0 3024) ∧ (s0 3024) ≤ 2147483647 := hS0 3024
    have b24 : -2147483648 ≤ (s 3024) ∧ (s 3024) ≤ 2147483647 := hS 3024
    refine tt_k 6 (S' := (339, [some (.inr (.inl 30)), o_1, o_2, o_3, o_4, o_5, o_6], [.inl (s0 3024), .inl (mi_shl 1 (s0 3025))], n, D, s0, p, c)) rfl ?_
    have b25 : 0 ≤ (s0 3025) ∧ (s0 3025) ≤ 31 := hS0 3025
    have e26 : 1 ≤ (mi_shl 1 (s0 3025)) ∧ (mi_shl 1 (s0 3025)) ≤ 131072 := mi_shl1b 0 17 (by omega) (by omega) (by decide)
    refine tb_ge (x := (mi_shl 1 (s0 3025))) (y := (s0 3024)) rfl rfl (by omega) (fun h27 => ?_) (fun h27 => ?_)
    · show tt Zi d 144 (355, [some (.inr (.inl 30)), o_1, o_2, o_3, o_4, o_5, o_6], [], n, D, s0, p, c) _
      exact hK s0 hS0 hF0 i0 trivial
    · show tt Zi d 144 (342, [some (.inr (.inl 30)), o_1, o_2, o_3, o_4, o_5, o_6], [], n, D, s0, p, c) _
      refine tt_k 7 (S' := (329, [some (.inr (.inl 30)), o_1, o_2, o_3, o_4, o_5, o_6], [], n, D, (us s0 3025 ((s0 3025) + 1)), p, c)) rfl ?_
      have hsh := mi_shl1i (k := s0 3025) (by omega) (by omega)
      have hq16 := pw_17 (q := s0 3025) (by omega) (by omega)
      exact ih  (us s0 3025 ((s0 3025) + 1)) (bS_us hS0 (show 0 ≤ ((s0 3025) + 1) ∧ ((s0 3025) + 1) ≤ 31 by omega)) (fr_us (by decide) hF0) (show 0 ≤ ((s0 3025) + 1) ∧ ((s0 3025) + 1) ≤ 17 by omega) (show (18 - ((s0 3025) + 1)).toNat < m by omega)

set_option maxRecDepth 100000 in
set_option maxHeartbeats 4000000 in
theorem x_measDR_L358 {Zi : Nat → Option (Nat × (Nat → Int))} {d n : Nat} {D : Nat → Nat × Nat} {s : Nat → Int} {p : Nat → Nat} {c : Nat → Nat → Int} {o_1 : Option mi_V} {o_2 : Option mi_V} {o_3 : Option mi_V} {o_4 : Option mi_V} {o_6 : Option mi_V} {Q : mi_Rs → mi_H → Prop} (hd : 2 ≤ d) (hS : bS s) (hC : bC D c) (hq0 : s 3017 ≤ 65535)
  (hK : ∀ (b : Int) (b_b : 2 ≤ b ∧ b ≤ 16), (True) → tt Zi d 144 (375, [some (.inr (.inl 30)), o_1, o_2, o_3, o_4, some (.inl b), o_6], [], n, D, s, p, c) Q) :
  ∀ (m : Nat) (b : Int) (b_b : 2 ≤ b ∧ b ≤ 16), (16 - b).toNat < m → tt Zi d 144 (358, [some (.inr (.inl 30)), o_1, o_2, o_3, o_4, some (.inl b), o_6], [], n, D, s, p, c) Q := by
  intro m
  induction m with
  | zero => intro b b_b hm; exact absurd hm (by omega)
  | succ m ih =>
    intro b b_b hm
    refine tt_k 5 (S' := (366, [some (.inr (.inl 30)), o_1, o_2, o_3, o_4, some (.inl b), o_6], [.inl (s 3017), .inl (mi_shl 1 b)], n, D, s, p, c)) rfl ?_
    have e1 : 4 ≤ (mi_shl 1 b) ∧ (mi_shl 1 b) ≤ 65536 := mi_shl1b 2 16 (by omega) (by omega) (by decide)
    have b2 : 0 ≤ (s 3017) ∧ (s 3017) ≤ 65535 := hS 3017
    refine tb_gt (x := (mi_shl 1 b)) (y := (s 3017)) rfl rfl (by omega) (fun h3 => ?_) (fun h3 => ?_)
    · show tt Zi d 144 (375, [some (.inr (.inl 30)), o_1, o_2, o_3, o_4, some (.inl b), o_6], [], n, D, s, p, c) _
      exact hK b (by omega) trivial
    · show tt Zi d 144 (369, [some (.inr (.inl 30)), o_1, o_2, o_3, o_4, some (.inl b), o_6], [], n, D, s, p, c) _
      refine tt_k 2 (S' := (358, [some (.inr (.inl 30)), o_1, o_2, o_3, o_4, some (.inl (b + 1)), o_6], [], n, D, s, p, c)) rfl ?_
      have hsh := mi_shl1i (k := b) (by omega) (by omega)
      have hb16 := pw_17 (q := b) (by omega) (by omega)
      have hb15 : b ≤ 15 := by have e : b = 16 → (2 : Int) ^ b.toNat = 65536 := (by intro hq; rw [hq]; decide); omega
      exact ih (b + 1)  (by omega) (show (16 - (b + 1)).toNat < m by omega)
set_option maxRecDepth 100000 in
set_option maxHeartbeats 4000000 in
theorem x_measDR {Zi : Nat → Option (Nat × (Nat → Int))} {d n : Nat} {D : Nat → Nat × Nat} {s : Nat → Int} {p : Nat → Nat} {c : Nat → Nat → Int} (hd : 2 ≤ d) (hS : bS s) (hC : bC D c) (bits : Int) (nr : Int) (top : Int) (f_ : Int) (b_bits : 2 ≤ bits ∧ bits ≤ 16) (b_nr : -2147483648 ≤ nr ∧ nr ≤ 2147483647) (b_top : 3 ≤ top ∧ top ≤ 65535) (hp0 : s 3018 = nr) : tt Zi d 144 (204, [some (.inr (.inl 30)), some (.inr (.inl 46)), some (.inl bits), some (.inl nr), some (.inl top), some (.inl f_), none], [], n, D, s, p, c) (fun R H => ∃ (s' : Nat → Int) (r : Int), R = .inl (some (.inl r)) ∧ H = (n, D, s', p, c) ∧ bS s' ∧ fr s s' [3017, 3018, 3019, 3020, 3021, 3022, 3023, 3024, 3025, 3026] ∧ (0 ≤ r ∧ r ≤ 1) ∧ (r = 1 → 0 ≤ nr ∧ nr ≤ 255)) := by
  refine tt_k 3 (S' := (207, [some (.inr (.inl 30)), some (.inr (.inl 46)), some (.inl bits), some (.inl nr), some (.inl top), some (.inl f_), none], [.inl 1, .inr (.inl 46), .inr (.inl 30)], n, D, s, p, c)) rfl ?_
  refine tt_ildv (i := 1) (v := (c 46 (1 : Int).toNat)) rfl rfl (by omega) rfl ?_
  show tt Zi d 144 (208, [some (.inr (.inl 30)), some (.inr (.inl 46)), some (.inl bits), some (.inl nr), some (.inl top), some (.inl f_), none], [.inl (c 46 (1 : Int).toNat), .inr (.inl 30)], n, D, s, p, c) _
  have b1 : 0 ≤ (c 46 (1 : Int).toNat) ∧ (c 46 (1 : Int).toNat) ≤ 65535 := hC 46 _
  have K3 : ∀ (j2 : Int) , (-2147483648 ≤ j2 ∧ j2 ≤ 2147483647) → (True) → tt Zi d 144 (231, [some (.inr (.inl 30)), some (.inr (.inl 46)), some (.inl bits), some (.inl nr), some (.inl top), some (.inl f_), none], [.inl j2, .inr (.inl 30)], n, D, s, p, c) (fun R H => ∃ (s' : Nat → Int) (r : Int), R = .inl (some (.inl r)) ∧ H = (n, D, s', p, c) ∧ bS s' ∧ fr s s' [3017, 3018, 3019, 3020, 3021, 3022, 3023, 3024, 3025, 3026] ∧ (0 ≤ r ∧ r ≤ 1) ∧ (r = 1 → 0 ≤ nr ∧ nr ≤ 255)) := by
    intro j2 b5 hj4
    refine tt_k 4 (S' := (237, [some (.inr (.inl 30)), some (.inr (.inl 46)), some (.inl bits), some (.inl nr), some (.inl top), some (.inl f_), none], [.inl 2, .inr (.inl 46), .inr (.inl 30)], n, D, (us s 3019 j2), p, c)) rfl ?_
    refine tt_ildv (i := 2) (v := (c 46 (2 : Int).toNat)) rfl rfl (by omega) rfl ?_
    show tt Zi d 144 (238, [some (.inr (.inl 30)), some (.inr (.inl 46)), some (.inl bits), some (.inl nr), some (.inl top), some (.inl f_), none], [.inl (c 46 (2 : Int).toNat), .inr (.inl 30)], n, D, (us s 3019 j2), p, c) _
    have b6 : 0 ≤ (c 46 (2 : Int).toNat) ∧ (c 46 (2 : Int).toNat) ≤ 65535 := hC 46 _
    have K8 : ∀ (j7 : Int) , (-2147483648 ≤ j7 ∧ j7 ≤ 2147483647) → (True) → tt Zi d 144 (259, [some (.inr (.inl 30)), some (.inr (.inl 46)), some (.inl bits), some (.inl nr), some (.inl top), some (.inl f_), none], [.inl j7, .inr (.inl 30)], n, D, (us s 3019 j2), p, c) (fun R H => ∃ (s' : Nat → Int) (r : Int), R = .inl (some (.inl r)) ∧ H = (n, D, s', p, c) ∧ bS s' ∧ fr s s' [3017, 3018, 3019, 3020, 3021, 3022, 3023, 3024, 3025, 3026] ∧ (0 ≤ r ∧ r ≤ 1) ∧ (r = 1 → 0 ≤ nr ∧ nr ≤ 255)) := by
      intro j7 b10 hj9
      refine tt_k 4 (S' := (265, [some (.inr (.inl 30)), some (.inr (.inl 46)), some (.inl bits), some (.inl nr), some (.inl top), some (.inl f_), none], [.inl 3, .inr (.inl 46), .inr (.inl 30)], n, D, (us (us s 3019 j2) 3020 j7), p, c)) rfl ?_
      refine tt_ildv (i := 3) (v := (c 46 (3 : Int).toNat)) rfl rfl (by omega) rfl ?_
      show tt Zi d 144 (266, [some (.inr (.inl 30)), some (.inr (.inl 46)), some (.inl bits), some (.inl nr), some (.inl top), some (.inl f_), none], [.inl (c 46 (3 : Int).toNat), .inr (.inl 30)], n, D, (us (us s 3019 j2) 3020 j7), p, c) _
      have b11 : 0 ≤ (c 46 (3 : Int).toNat) ∧ (c 46 (3 : Int).toNat) ≤ 65535 := hC 46 _
      have K13 : ∀ (j12 : Int) , (-2147483648 ≤ j12 ∧ j12 ≤ 2147483647) → (True) → tt Zi d 144 (287, [some (.inr (.inl 30)), some (.inr (.inl 46)), some (.inl bits), some (.inl nr), some (.inl top), some (.inl f_), none], [.inl j12, .inr (.inl 30)], n, D, (us (us s 3019 j2) 3020 j7), p, c) (fun R H => ∃ (s' : Nat → Int) (r : Int), R = .inl (some (.inl r)) ∧ H = (n, D, s', p, c) ∧ bS s' ∧ fr s s' [3017, 3018, 3019, 3020, 3021, 3022, 3023, 3024, 3025, 3026] ∧ (0 ≤ r ∧ r ≤ 1) ∧ (r = 1 → 0 ≤ nr ∧ nr ≤ 255)) := by
        intro j12 b15 hj14
        refine tt_k 8 (S' := (299, [some (.inr (.inl 30)), some (.inr (.inl 46)), some (.inl bits), some (.inl nr), some (.inl top), some (.inl f_), none], [.inl (((2 * (s 3018)) + 1)), .inr (.inl 30)], n, D, (us (us (us s 3019 j2) 3020 j7) 3021 j12), p, c)) rfl ?_
        have b17 : -2147483648 ≤ (s 3018) ∧ (s 3018) ≤ 2147483647 := hS 3018
        refine tt_wm (x := ((2 * (s 3018)) + 1)) ?_
        intro v16 b18 w19
        show tt Zi d 144 (299, [some (.inr (.inl 30)), some (.inr (.inl 46)), some (.inl bits), some (.inl nr), some (.inl top), some (.inl f_), none], [.inl v16, .inr (.inl 30)], n, D, (us (us (us s 3019 j2) 3020 j7) 3021 j12), p, c) _
        refine tt_k 9 (S' := (314, [some (.inr (.inl 30)), some (.inr (.inl 46)), some (.inl bits), some (.inl nr), some (.inl top), some (.inl f_), none], [.inl (((s 3017) + (2 * (s 3018)))), .inr (.inl 30)], n, D, (us (us (us (us s 3019 j2) 3020 j7) 3021 j12) 3023 v16), p, c)) rfl ?_
        have b21 : 0 ≤ (s 3017) ∧ (s 3017) ≤ 65535 := hS 3017
        refine tt_wm (x := ((s 3017) + (2 * (s 3018)))) ?_
        intro v20 b22 w23
        show tt Zi d 144 (314, [some (.inr (.inl 30)), some (.inr (.inl 46)), some (.inl bits), some (.inl nr), some (.inl top), some (.inl f_), none], [.inl v20, .inr (.inl 30)], n, D, (us (us (us (us s 3019 j2) 3020 j7) 3021 j12) 3023 v16), p, c) _
        refine tt_k 1 (S' := (315, [some (.inr (.inl 30)), some (.inr (.inl 46)), some (.inl bits), some (.inl nr), some (.inl top), some (.inl f_), none], [.inr (.inl 30), .inl v20, .inr (.inl 30)], n, D, (us (us (us (us s 3019 j2) 3020 j7) 3021 j12) 3023 v16), p, c)) rfl ?_
        refine tt_k 1 (S' := (318, [some (.inr (.inl 30)), some (.inr (.inl 46)), some (.inl bits), some (.inl nr), some (.inl top), some (.inl f_), none], [.inl v16, .inl v20, .inr (.inl 30)], n, D, (us (us (us (us s 3019 j2) 3020 j7) 3021 j12) 3023 v16), p, c)) rfl ?_
        refine tt_dvn (x := v20) (y := v16) rfl (by omega) (by omega) (by omega) ?_
        show tt Zi d 144 (319, [some (.inr (.inl 30)), some (.inr (.inl 46)), some (.inl bits), some (.inl nr), some (.inl top), some (.inl f_), none], [.inl (Int.tdiv v20 v16), .inr (.inl 30)], n, D, (us (us (us (us s 3019 j2) 3020 j7) 3021 j12) 3023 v16), p, c) _
        have hrb := rng_bd (most := (s 3017)) (X := v20) (Y := v16) (by omega) (by omega) (by omega) (by omega) (by omega)
        refine tt_k 2 (S' := (321, [some (.inr (.inl 30)), some (.inr (.inl 46)), some (.inl bits), some (.inl nr), some (.inl top), some (.inl f_), none], [.inl ((Int.tdiv v20 v16) + 1), .inr (.inl 30)], n, D, (us (us (us (us s 3019 j2) 3020 j7) 3021 j12) 3023 v16), p, c)) rfl ?_
        refine tt_wm (x := ((Int.tdiv v20 v16) + 1)) ?_
        intro v24 b25 w26
        show tt Zi d 144 (321, [some (.inr (.inl 30)), some (.inr (.inl 46)), some (.inl bits), some (.inl nr), some (.inl top), some (.inl f_), none], [.inl v24, .inr (.inl 30)], n, D, (us (us (us (us s 3019 j2) 3020 j7) 3021 j12) 3023 v16), p, c) _
        refine tt_k 4 (S' := (329, [some (.inr (.inl 30)), some (.inr (.inl 46)), some (.inl bits), some (.inl nr), some (.inl top), some (.inl f_), none], [], n, D, (us (us (us (us (us (us s 3019 j2) 3020 j7) 3021 j12) 3023 v16) 3024 v24) 3025 0), p, c)) rfl ?_
        refine x_measDR_L329 (Zi := Zi) (D := D) (s := (us (us (us (us (us (us s 3019 j2) 3020 j7) 3021 j12) 3023 v16) 3024 v24) 3025 0)) (p := p) (c := c) hd (bS_us (bS_us (bS_us (bS_us (bS_us (bS_us hS (show -2147483648 ≤ j2 ∧ j2 ≤ 2147483647 by omega)) (show -2147483648 ≤ j7 ∧ j7 ≤ 2147483647 by omega)) (show -2147483648 ≤ j12 ∧ j12 ≤ 2147483647 by omega)) (show -2147483648 ≤ v16 ∧ v16 ≤ 2147483647 by omega)) (show -2147483648 ≤ v24 ∧ v24 ≤ 2147483647 by omega)) (show 0 ≤ 0 ∧ 0 ≤ 31 by omega)) hC   (show v24 ≤ 65537 by omega) ?_ _  (us (us (us (us (us (us s 3019 j2) 3020 j7) 3021 j12) 3023 v16) 3024 v24) 3025 0) (bS_us (bS_us (bS_us (bS_us (bS_us (bS_us hS (show -2147483648 ≤ j2 ∧ j2 ≤ 2147483647 by omega)) (show -2147483648 ≤ j7 ∧ j7 ≤ 2147483647 by omega)) (show -2147483648 ≤ j12 ∧ j12 ≤ 2147483647 by omega)) (show -2147483648 ≤ v16 ∧ v16 ≤ 2147483647 by omega)) (show -2147483648 ≤ v24 ∧ v24 ≤ 2147483647 by omega)) (show 0 ≤ 0 ∧ 0 ≤ 31 by omega)) fr_rf (show (0 : Int) ≤ 0 ∧ (0 : Int) ≤ 17 by decide) (Nat.lt_succ_self _)
        intro s27 hS27 f28 i29 hx30
        show tt Zi d 144 (355, [some (.inr (.inl 30)), some (.inr (.inl 46)), some (.inl bits), some (.inl nr), some (.inl top), some (.inl f_), none], [], n, D, s27, p, c) _
        have e31 : s27 3017 = (s 3017) := (f28 3017 (by decide))
        have b32 : 0 ≤ (s27 3017) ∧ (s27 3017) ≤ 65535 := hS27 3017
        have e33 : s27 3018 = (s 3018) := (f28 3018 (by decide))
        have b34 : -2147483648 ≤ (s27 3018) ∧ (s27 3018) ≤ 2147483647 := hS27 3018
        have e35 : s27 3019 = j2 := (f28 3019 (by decide))
        have b36 : -2147483648 ≤ (s27 3019) ∧ (s27 3019) ≤ 2147483647 := hS27 3019
        have e37 : s27 3020 = j7 := (f28 3020 (by decide))
        have b38 : -2147483648 ≤ (s27 3020) ∧ (s27 3020) ≤ 2147483647 := hS27 3020
        have e39 : s27 3021 = j12 := (f28 3021 (by decide))
        have b40 : -2147483648 ≤ (s27 3021) ∧ (s27 3021) ≤ 2147483647 := hS27 3021
        have e41 : s27 3022 = (s 3022) := (f28 3022 (by decide))
        have b42 : 0 ≤ (s27 3022) ∧ (s27 3022) ≤ 65535 := hS27 3022
        have b43 : 0 ≤ (s 3022) ∧ (s 3022) ≤ 65535 := hS 3022
        have e44 : s27 3023 = v16 := (f28 3023 (by decide))
        have b45 : -2147483648 ≤ (s27 3023) ∧ (s27 3023) ≤ 2147483647 := hS27 3023
        have e46 : s27 3024 = v24 := (f28 3024 (by decide))
        have b47 : -2147483648 ≤ (s27 3024) ∧ (s27 3024) ≤ 2147483647 := hS27 3024
        refine tt_k 2 (S' := (358, [some (.inr (.inl 30)), some (.inr (.inl 46)), some (.inl bits), some (.inl nr), some (.inl top), some (.inl 2), none], [], n, D, s27, p, c)) rfl ?_
        refine x_measDR_L358 (Zi := Zi) (D := D) (s := s27) (p := p) (c := c) hd hS27 hC   (show (s27 3017) ≤ 65535 by omega) ?_ _ 2  (by omega) (Nat.lt_succ_self _)
        intro x48 b49 hx50
        show tt Zi d 144 (375, [some (.inr (.inl 30)), some (.inr (.inl 46)), some (.inl bits), some (.inl nr), some (.inl top), some (.inl x48), none], [], n, D, s27, p, c) _
        refine tt_k 5 (S' := (383, [some (.inr (.inl 30)), some (.inr (.inl 46)), some (.inl bits), some (.inl nr), some (.inl top), some (.inl x48), none], [.inl x48, .inl 8, .inl x48, .inl 2, .inr (.inl 30)], n, D, s27, p, c)) rfl ?_
        refine tt_cl (by omega) rfl (k_more (Zi := Zi) (D := D) (s := s27) (p := p) (c := c) (by omega) hS27 hC 8 x48 (by omega) (by omega)) ?_
        rintro _ _ ⟨r51, rfl, rfl, b52, k53⟩
        show tt Zi d 144 (386, [some (.inr (.inl 30)), some (.inr (.inl 46)), some (.inl bits), some (.inl nr), some (.inl top), some (.inl x48), none], [.inl r51, .inl x48, .inl 2, .inr (.inl 30)], n, D, s27, p, c) _
        replace k53 : r51 = max 8 x48 := k53
        subst k53
        show tt Zi d 144 (386, [some (.inr (.inl 30)), some (.inr (.inl 46)), some (.inl bits), some (.inl nr), some (.inl top), some (.inl x48), none], [.inl (max 8 x48), .inl x48, .inl 2, .inr (.inl 30)], n, D, s27, p, c) _
        refine tt_k 7 (S' := (397, [some (.inr (.inl 30)), some (.inr (.inl 46)), some (.inl bits), some (.inl nr), some (.inl top), some (.inl x48), none], [.inl ((s27 3018) + 1)], n, D, (us s27 3026 ((2 * (x48 + (max 8 x48))))), p, c)) rfl ?_
        refine tt_wm (x := ((s27 3018) + 1)) ?_
        intro v54 b55 w56
        show tt Zi d 144 (397, [some (.inr (.inl 30)), some (.inr (.inl 46)), some (.inl bits), some (.inl nr), some (.inl top), some (.inl x48), none], [.inl v54], n, D, (us s27 3026 ((2 * (x48 + (max 8 x48))))), p, c) _
        refine tt_k 2 (S' := (401, [some (.inr (.inl 30)), some (.inr (.inl 46)), some (.inl bits), some (.inl nr), some (.inl top), some (.inl x48), none], [.inl (s27 3019), .inl v54], n, D, (us s27 3026 ((2 * (x48 + (max 8 x48))))), p, c)) rfl ?_
        have K58 : ∀ (j57 : Int) , (0 ≤ j57 ∧ j57 ≤ 1) → (True) → tt Zi d 144 (442, [some (.inr (.inl 30)), some (.inr (.inl 46)), some (.inl bits), some (.inl nr), some (.inl top), some (.inl x48), none], [.inl j57], n, D, (us s27 3026 ((2 * (x48 + (max 8 x48))))), p, c) (fun R H => ∃ (s' : Nat → Int) (r : Int), R = .inl (some (.inl r)) ∧ H = (n, D, s', p, c) ∧ bS s' ∧ fr s s' [3017, 3018, 3019, 3020, 3021, 3022, 3023, 3024, 3025, 3026] ∧ (0 ≤ r ∧ r ≤ 1) ∧ (r = 1 → 0 ≤ nr ∧ nr ≤ 255)) := by
          intro j57 b60 hj59
          refine tt_k 4 (S' := (450, [some (.inr (.inl 30)), some (.inr (.inl 46)), some (.inl bits), some (.inl nr), some (.inl top), some (.inl x48), some (.inl j57)], [.inl top, .inl (s27 3017)], n, D, (us s27 3026 ((2 * (x48 + (max 8 x48))))), p, c)) rfl ?_
          refine tb_gt (x := (s27 3017)) (y := top) rfl rfl (by omega) (fun h61 => ?_) (fun h61 => ?_)
          · show tt Zi d 144 (510, [some (.inr (.inl 30)), some (.inr (.inl 46)), some (.inl bits), some (.inl nr), some (.inl top), some (.inl x48), some (.inl j57)], [], n, D, (us s27 3026 ((2 * (x48 + (max 8 x48))))), p, c) _
            refine tt_k 1 (S' := (511, [some (.inr (.inl 30)), some (.inr (.inl 46)), some (.inl bits), some (.inl nr), some (.inl top), some (.inl x48), some (.inl j57)], [.inl 0], n, D, (us s27 3026 ((2 * (x48 + (max 8 x48))))), p, c)) rfl ?_
            exact tt_rtb rfl rfl (by omega) ⟨(us s27 3026 ((2 * (x48 + (max 8 x48))))), 0, rfl, rfl, (bS_us hS27 (show 0 ≤ (2 * (x48 + (max 8 x48))) ∧ (2 * (x48 + (max 8 x48))) ≤ 96 by omega)), (fr_us (by decide) (fr_tr (fr_us (by decide) (fr_us (by decide) (fr_us (by decide) (fr_us (by decide) (fr_us (by decide) (fr_us (by decide) fr_rf)))))) f28 (by decide))), by omega, by show 0 = 1 → 0 ≤ nr ∧ nr ≤ 255; intro hr; omega⟩
          · show tt Zi d 144 (453, [some (.inr (.inl 30)), some (.inr (.inl 46)), some (.inl bits), some (.inl nr), some (.inl top), some (.inl x48), some (.inl j57)], [], n, D, (us s27 3026 ((2 * (x48 + (max 8 x48))))), p, c) _
            refine tt_k 4 (S' := (461, [some (.inr (.inl 30)), some (.inr (.inl 46)), some (.inl bits), some (.inl nr), some (.inl top), some (.inl x48), some (.inl j57)], [.inl 255, .inl 0, .inl (s27 3018)], n, D, (us s27 3026 ((2 * (x48 + (max 8 x48))))), p, c)) rfl ?_
            refine tt_cl (by omega) rfl (k_isIn (Zi := Zi) (D := D) (s := (us s27 3026 ((2 * (x48 + (max 8 x48)))))) (p := p) (c := c) (by omega) (bS_us hS27 (show 0 ≤ (2 * (x48 + (max 8 x48))) ∧ (2 * (x48 + (max 8 x48))) ≤ 96 by omega)) hC (s27 3018) 0 255 (by omega) (by omega) (by omega)) ?_
            rintro _ _ ⟨r62, rfl, rfl, b63, k64⟩
            show tt Zi d 144 (464, [some (.inr (.inl 30)), some (.inr (.inl 46)), some (.inl bits), some (.inl nr), some (.inl top), some (.inl x48), some (.inl j57)], [.inl r62], n, D, (us s27 3026 ((2 * (x48 + (max 8 x48))))), p, c) _
            replace k64 : r62 = if 0 ≤ (s27 3018) ∧ (s27 3018) ≤ 255 then (1 : Int) else 0 := k64
            subst k64
            show tt Zi d 144 (464, [some (.inr (.inl 30)), some (.inr (.inl 46)), some (.inl bits), some (.inl nr), some (.inl top), some (.inl x48), some (.inl j57)], [.inl (if 0 ≤ (s27 3018) ∧ (s27 3018) ≤ 255 then (1 : Int) else 0)], n, D, (us s27 3026 ((2 * (x48 + (max 8 x48))))), p, c) _
            refine tz_eq (x := (if 0 ≤ (s27 3018) ∧ (s27 3018) ≤ 255 then (1 : Int) else 0)) rfl rfl (by omega) (fun h65 => ?_) (fun h65 => ?_)
            · show tt Zi d 144 (510, [some (.inr (.inl 30)), some (.inr (.inl 46)), some (.inl bits), some (.inl nr), some (.inl top), some (.inl x48), some (.inl j57)], [], n, D, (us s27 3026 ((2 * (x48 + (max 8 x48))))), p, c) _
              refine tt_k 1 (S' := (511, [some (.inr (.inl 30)), some (.inr (.inl 46)), some (.inl bits), some (.inl nr), some (.inl top), some (.inl x48), some (.inl j57)], [.inl 0], n, D, (us s27 3026 ((2 * (x48 + (max 8 x48))))), p, c)) rfl ?_
              exact tt_rtb rfl rfl (by omega) ⟨(us s27 3026 ((2 * (x48 + (max 8 x48))))), 0, rfl, rfl, (bS_us hS27 (show 0 ≤ (2 * (x48 + (max 8 x48))) ∧ (2 * (x48 + (max 8 x48))) ≤ 96 by omega)), (fr_us (by decide) (fr_tr (fr_us (by decide) (fr_us (by decide) (fr_us (by decide) (fr_us (by decide) (fr_us (by decide) (fr_us (by decide) fr_rf)))))) f28 (by decide))), by omega, by show 0 = 1 → 0 ≤ nr ∧ nr ≤ 255; intro hr; omega⟩
            · show tt Zi d 144 (467, [some (.inr (.inl 30)), some (.inr (.inl 46)), some (.inl bits), some (.inl nr), some (.inl top), some (.inl x48), some (.inl j57)], [], n, D, (us s27 3026 ((2 * (x48 + (max 8 x48))))), p, c) _
              refine tt_k 5 (S' := (476, [some (.inr (.inl 30)), some (.inr (.inl 46)), some (.inl bits), some (.inl nr), some (.inl top), some (.inl x48), some (.inl j57)], [.inl 2, .inl (s27 3017), .inl (s27 3018)], n, D, (us s27 3026 ((2 * (x48 + (max 8 x48))))), p, c)) rfl ?_
              refine tt_dvp (x := (s27 3017)) (y := 2) rfl (by omega) ?_
              show tt Zi d 144 (477, [some (.inr (.inl 30)), some (.inr (.inl 46)), some (.inl bits), some (.inl nr), some (.inl top), some (.inl x48), some (.inl j57)], [.inl ((s27 3017) / 2), .inl (s27 3018)], n, D, (us s27 3026 ((2 * (x48 + (max 8 x48))))), p, c) _
              refine tb_gt (x := (s27 3018)) (y := ((s27 3017) / 2)) rfl rfl (by omega) (fun h66 => ?_) (fun h66 => ?_)
              · show tt Zi d 144 (510, [some (.inr (.inl 30)), some (.inr (.inl 46)), some (.inl bits), some (.inl nr), some (.inl top), some (.inl x48), some (.inl j57)], [], n, D, (us s27 3026 ((2 * (x48 + (max 8 x48))))), p, c) _
                refine tt_k 1 (S' := (511, [some (.inr (.inl 30)), some (.inr (.inl 46)), some (.inl bits), some (.inl nr), some (.inl top), some (.inl x48), some (.inl j57)], [.inl 0], n, D, (us s27 3026 ((2 * (x48 + (max 8 x48))))), p, c)) rfl ?_
                exact tt_rtb rfl rfl (by omega) ⟨(us s27 3026 ((2 * (x48 + (max 8 x48))))), 0, rfl, rfl, (bS_us hS27 (show 0 ≤ (2 * (x48 + (max 8 x48))) ∧ (2 * (x48 + (max 8 x48))) ≤ 96 by omega)), (fr_us (by decide) (fr_tr (fr_us (by decide) (fr_us (by decide) (fr_us (by decide) (fr_us (by decide) (fr_us (by decide) (fr_us (by decide) fr_rf)))))) f28 (by decide))), by omega, by show 0 = 1 → 0 ≤ nr ∧ nr ≤ 255; intro hr; omega⟩
              · show tt Zi d 144 (480, [some (.inr (.inl 30)), some (.inr (.inl 46)), some (.inl bits), some (.inl nr), some (.inl top), some (.inl x48), some (.inl j57)], [], n, D, (us s27 3026 ((2 * (x48 + (max 8 x48))))), p, c) _
                refine tt_k 1 (S' := (482, [some (.inr (.inl 30)), some (.inr (.inl 46)), some (.inl bits), some (.inl nr), some (.inl top), some (.inl x48), some (.inl j57)], [.inl j57], n, D, (us s27 3026 ((2 * (x48 + (max 8 x48))))), p, c)) rfl ?_
                refine tz_eq (x := j57) rfl rfl (by omega) (fun h67 => ?_) (fun h67 => ?_)
                · show tt Zi d 144 (510, [some (.inr (.inl 30)), some (.inr (.inl 46)), some (.inl bits), some (.inl nr), some (.inl top), some (.inl x48), some (.inl j57)], [], n, D, (us s27 3026 ((2 * (x48 + (max 8 x48))))), p, c) _
                  refine tt_k 1 (S' := (511, [some (.inr (.inl 30)), some (.inr (.inl 46)), some (.inl bits), some (.inl nr), some (.inl top), some (.inl x48), some (.inl j57)], [.inl 0], n, D, (us s27 3026 ((2 * (x48 + (max 8 x48))))), p, c)) rfl ?_
                  exact tt_rtb rfl rfl (by omega) ⟨(us s27 3026 ((2 * (x48 + (max 8 x48))))), 0, rfl, rfl, (bS_us hS27 (show 0 ≤ (2 * (x48 + (max 8 x48))) ∧ (2 * (x48 + (max 8 x48))) ≤ 96 by omega)), (fr_us (by decide) (fr_tr (fr_us (by decide) (fr_us (by decide) (fr_us (by decide) (fr_us (by decide) (fr_us (by decide) (fr_us (by decide) fr_rf)))))) f28 (by decide))), by omega, by show 0 = 1 → 0 ≤ nr ∧ nr ≤ 255; intro hr; omega⟩
                · show tt Zi d 144 (485, [some (.inr (.inl 30)), some (.inr (.inl 46)), some (.inl bits), some (.inl nr), some (.inl top), some (.inl x48), some (.inl j57)], [], n, D, (us s27 3026 ((2 * (x48 + (max 8 x48))))), p, c) _
                  refine tt_k 6 (S' := (497, [some (.inr (.inl 30)), some (.inr (.inl 46)), some (.inl bits), some (.inl nr), some (.inl top), some (.inl x48), some (.inl j57)], [.inl (s27 3017), .inl 255, .inl 3, .inl (s27 3022)], n, D, (us s27 3026 ((2 * (x48 + (max 8 x48))))), p, c)) rfl ?_
                  refine tt_cl (by omega) rfl (k_more (Zi := Zi) (D := D) (s := (us s27 3026 ((2 * (x48 + (max 8 x48)))))) (p := p) (c := c) (by omega) (bS_us hS27 (show 0 ≤ (2 * (x48 + (max 8 x48))) ∧ (2 * (x48 + (max 8 x48))) ≤ 96 by omega)) hC 255 (s27 3017) (by omega) (by omega)) ?_
                  rintro _ _ ⟨r68, rfl, rfl, b69, k70⟩
                  show tt Zi d 144 (500, [some (.inr (.inl 30)), some (.inr (.inl 46)), some (.inl bits), some (.inl nr), some (.inl top), some (.inl x48), some (.inl j57)], [.inl r68, .inl 3, .inl (s27 3022)], n, D, (us s27 3026 ((2 * (x48 + (max 8 x48))))), p, c) _
                  replace k70 : r68 = max 255 (s27 3017) := k70
                  subst k70
                  show tt Zi d 144 (500, [some (.inr (.inl 30)), some (.inr (.inl 46)), some (.inl bits), some (.inl nr), some (.inl top), some (.inl x48), some (.inl j57)], [.inl (max 255 (s27 3017)), .inl 3, .inl (s27 3022)], n, D, (us s27 3026 ((2 * (x48 + (max 8 x48))))), p, c) _
                  refine tt_cl (by omega) rfl (k_isIn (Zi := Zi) (D := D) (s := (us s27 3026 ((2 * (x48 + (max 8 x48)))))) (p := p) (c := c) (by omega) (bS_us hS27 (show 0 ≤ (2 * (x48 + (max 8 x48))) ∧ (2 * (x48 + (max 8 x48))) ≤ 96 by omega)) hC (s27 3022) 3 (max 255 (s27 3017)) (by omega) (by omega) (by omega)) ?_
                  rintro _ _ ⟨r71, rfl, rfl, b72, k73⟩
                  show tt Zi d 144 (503, [some (.inr (.inl 30)), some (.inr (.inl 46)), some (.inl bits), some (.inl nr), some (.inl top), some (.inl x48), some (.inl j57)], [.inl r71], n, D, (us s27 3026 ((2 * (x48 + (max 8 x48))))), p, c) _
                  replace k73 : r71 = if 3 ≤ (s27 3022) ∧ (s27 3022) ≤ (max 255 (s27 3017)) then (1 : Int) else 0 := k73
                  subst k73
                  show tt Zi d 144 (503, [some (.inr (.inl 30)), some (.inr (.inl 46)), some (.inl bits), some (.inl nr), some (.inl top), some (.inl x48), some (.inl j57)], [.inl ((if 3 ≤ (s27 3022) ∧ (s27 3022) ≤ (max 255 (s27 3017)) then (1 : Int) else 0))], n, D, (us s27 3026 ((2 * (x48 + (max 8 x48))))), p, c) _
                  refine tz_eq (x := (if 3 ≤ (s27 3022) ∧ (s27 3022) ≤ (max 255 (s27 3017)) then (1 : Int) else 0)) rfl rfl (by omega) (fun h74 => ?_) (fun h74 => ?_)
                  · show tt Zi d 144 (510, [some (.inr (.inl 30)), some (.inr (.inl 46)), some (.inl bits), some (.inl nr), some (.inl top), some (.inl x48), some (.inl j57)], [], n, D, (us s27 3026 ((2 * (x48 + (max 8 x48))))), p, c) _
                    refine tt_k 1 (S' := (511, [some (.inr (.inl 30)), some (.inr (.inl 46)), some (.inl bits), some (.inl nr), some (.inl top), some (.inl x48), some (.inl j57)], [.inl 0], n, D, (us s27 3026 ((2 * (x48 + (max 8 x48))))), p, c)) rfl ?_
                    exact tt_rtb rfl rfl (by omega) ⟨(us s27 3026 ((2 * (x48 + (max 8 x48))))), 0, rfl, rfl, (bS_us hS27 (show 0 ≤ (2 * (x48 + (max 8 x48))) ∧ (2 * (x48 + (max 8 x48))) ≤ 96 by omega)), (fr_us (by decide) (fr_tr (fr_us (by decide) (fr_us (by decide) (fr_us (by decide) (fr_us (by decide) (fr_us (by decide) (fr_us (by decide) fr_rf)))))) f28 (by decide))), by omega, by show 0 = 1 → 0 ≤ nr ∧ nr ≤ 255; intro hr; omega⟩
                  · show tt Zi d 144 (506, [some (.inr (.inl 30)), some (.inr (.inl 46)), some (.inl bits), some (.inl nr), some (.inl top), some (.inl x48), some (.inl j57)], [], n, D, (us s27 3026 ((2 * (x48 + (max 8 x48))))), p, c) _
                    refine tt_k 2 (S' := (511, [some (.inr (.inl 30)), some (.inr (.inl 46)), some (.inl bits), some (.inl nr), some (.inl top), some (.inl x48), some (.inl j57)], [.inl 1], n, D, (us s27 3026 ((2 * (x48 + (max 8 x48))))), p, c)) rfl ?_
                    exact tt_rtb rfl rfl (by omega) ⟨(us s27 3026 ((2 * (x48 + (max 8 x48))))), 1, rfl, rfl, (bS_us hS27 (show 0 ≤ (2 * (x48 + (max 8 x48))) ∧ (2 * (x48 + (max 8 x48))) ≤ 96 by omega)), (fr_us (by decide) (fr_tr (fr_us (by decide) (fr_us (by decide) (fr_us (by decide) (fr_us (by decide) (fr_us (by decide) (fr_us (by decide) fr_rf)))))) f28 (by decide))), by omega, by show 1 = 1 → 0 ≤ nr ∧ nr ≤ 255; intro hr; omega⟩
        refine tb_gt (x := v54) (y := (s27 3019)) rfl rfl (by omega) (fun h75 => ?_) (fun h75 => ?_)
        · show tt Zi d 144 (441, [some (.inr (.inl 30)), some (.inr (.inl 46)), some (.inl bits), some (.inl nr), some (.inl top), some (.inl x48), none], [], n, D, (us s27 3026 ((2 * (x48 + (max 8 x48))))), p, c) _
          refine tt_k 1 (S' := (442, [some (.inr (.inl 30)), some (.inr (.inl 46)), some (.inl bits), some (.inl nr), some (.inl top), some (.inl x48), none], [.inl 0], n, D, (us s27 3026 ((2 * (x48 + (max 8 x48))))), p, c)) rfl ?_
          exact K58 0  (by omega) (trivial)
        · show tt Zi d 144 (404, [some (.inr (.inl 30)), some (.inr (.inl 46)), some (.inl bits), some (.inl nr), some (.inl top), some (.inl x48), none], [], n, D, (us s27 3026 ((2 * (x48 + (max 8 x48))))), p, c) _
          refine tt_k 4 (S' := (412, [some (.inr (.inl 30)), some (.inr (.inl 46)), some (.inl bits), some (.inl nr), some (.inl top), some (.inl x48), none], [.inl (s27 3020), .inl (s27 3019)], n, D, (us s27 3026 ((2 * (x48 + (max 8 x48))))), p, c)) rfl ?_
          refine tb_gt (x := (s27 3019)) (y := (s27 3020)) rfl rfl (by omega) (fun h76 => ?_) (fun h76 => ?_)
          · show tt Zi d 144 (441, [some (.inr (.inl 30)), some (.inr (.inl 46)), some (.inl bits), some (.inl nr), some (.inl top), some (.inl x48), none], [], n, D, (us s27 3026 ((2 * (x48 + (max 8 x48))))), p, c) _
            refine tt_k 1 (S' := (442, [some (.inr (.inl 30)), some (.inr (.inl 46)), some (.inl bits), some (.inl nr), some (.inl top), some (.inl x48), none], [.inl 0], n, D, (us s27 3026 ((2 * (x48 + (max 8 x48))))), p, c)) rfl ?_
            exact K58 0  (by omega) (trivial)
          · show tt Zi d 144 (415, [some (.inr (.inl 30)), some (.inr (.inl 46)), some (.inl bits), some (.inl nr), some (.inl top), some (.inl x48), none], [], n, D, (us s27 3026 ((2 * (x48 + (max 8 x48))))), p, c) _
            refine tt_k 4 (S' := (423, [some (.inr (.inl 30)), some (.inr (.inl 46)), some (.inl bits), some (.inl nr), some (.inl top), some (.inl x48), none], [.inl (s27 3021), .inl (s27 3020)], n, D, (us s27 3026 ((2 * (x48 + (max 8 x48))))), p, c)) rfl ?_
            refine tb_gt (x := (s27 3020)) (y := (s27 3021)) rfl rfl (by omega) (fun h77 => ?_) (fun h77 => ?_)
            · show tt Zi d 144 (441, [some (.inr (.inl 30)), some (.inr (.inl 46)), some (.inl bits), some (.inl nr), some (.inl top), some (.inl x48), none], [], n, D, (us s27 3026 ((2 * (x48 + (max 8 x48))))), p, c) _
              refine tt_k 1 (S' := (442, [some (.inr (.inl 30)), some (.inr (.inl 46)), some (.inl bits), some (.inl nr), some (.inl top), some (.inl x48), none], [.inl 0], n, D, (us s27 3026 ((2 * (x48 + (max 8 x48))))), p, c)) rfl ?_
              exact K58 0  (by omega) (trivial)
            · show tt Zi d 144 (426, [some (.inr (.inl 30)), some (.inr (.inl 46)), some (.inl bits), some (.inl nr), some (.inl top), some (.inl x48), none], [], n, D, (us s27 3026 ((2 * (x48 + (max 8 x48))))), p, c) _
              refine tt_k 4 (S' := (434, [some (.inr (.inl 30)), some (.inr (.inl 46)), some (.inl bits), some (.inl nr), some (.inl top), some (.inl x48), none], [.inl (s27 3017), .inl (s27 3021)], n, D, (us s27 3026 ((2 * (x48 + (max 8 x48))))), p, c)) rfl ?_
              refine tb_gt (x := (s27 3021)) (y := (s27 3017)) rfl rfl (by omega) (fun h78 => ?_) (fun h78 => ?_)
              · show tt Zi d 144 (441, [some (.inr (.inl 30)), some (.inr (.inl 46)), some (.inl bits), some (.inl nr), some (.inl top), some (.inl x48), none], [], n, D, (us s27 3026 ((2 * (x48 + (max 8 x48))))), p, c) _
                refine tt_k 1 (S' := (442, [some (.inr (.inl 30)), some (.inr (.inl 46)), some (.inl bits), some (.inl nr), some (.inl top), some (.inl x48), none], [.inl 0], n, D, (us s27 3026 ((2 * (x48 + (max 8 x48))))), p, c)) rfl ?_
                exact K58 0  (by omega) (trivial)
              · show tt Zi d 144 (437, [some (.inr (.inl 30)), some (.inr (.inl 46)), some (.inl bits), some (.inl nr), some (.inl top), some (.inl x48), none], [], n, D, (us s27 3026 ((2 * (x48 + (max 8 x48))))), p, c) _
                refine tt_k 2 (S' := (442, [some (.inr (.inl 30)), some (.inr (.inl 46)), some (.inl bits), some (.inl nr), some (.inl top), some (.inl x48), none], [.inl 1], n, D, (us s27 3026 ((2 * (x48 + (max 8 x48))))), p, c)) rfl ?_
                exact K58 1  (by omega) (trivial)
      refine tz_ne (x := (c 46 (3 : Int).toNat)) rfl rfl (by omega) (fun h79 => ?_) (fun h79 => ?_)
      · show tt Zi d 144 (284, [some (.inr (.inl 30)), some (.inr (.inl 46)), some (.inl bits), some (.inl nr), some (.inl top), some (.inl f_), none], [.inr (.inl 30)], n, D, (us (us s 3019 j2) 3020 j7), p, c) _
        refine tt_k 2 (S' := (286, [some (.inr (.inl 30)), some (.inr (.inl 46)), some (.inl bits), some (.inl nr), some (.inl top), some (.inl f_), none], [.inl 3, .inr (.inl 46), .inr (.inl 30)], n, D, (us (us s 3019 j2) 3020 j7), p, c)) rfl ?_
        refine tt_ildv (i := 3) (v := (c 46 (3 : Int).toNat)) rfl rfl (by omega) rfl ?_
        show tt Zi d 144 (287, [some (.inr (.inl 30)), some (.inr (.inl 46)), some (.inl bits), some (.inl nr), some (.inl top), some (.inl f_), none], [.inl (c 46 (3 : Int).toNat), .inr (.inl 30)], n, D, (us (us s 3019 j2) 3020 j7), p, c) _
        exact K13 (c 46 (3 : Int).toNat)  (by omega) (trivial)
      · show tt Zi d 144 (269, [some (.inr (.inl 30)), some (.inr (.inl 46)), some (.inl bits), some (.inl nr), some (.inl top), some (.inl f_), none], [.inr (.inl 30)], n, D, (us (us s 3019 j2) 3020 j7), p, c) _
        refine tt_k 5 (S' := (278, [some (.inr (.inl 30)), some (.inr (.inl 46)), some (.inl bits), some (.inl nr), some (.inl top), some (.inl f_), none], [.inl j7, .inl (s 3021), .inr (.inl 30), .inr (.inl 30)], n, D, (us (us s 3019 j2) 3020 j7), p, c)) rfl ?_
        have b80 : -2147483648 ≤ (s 3021) ∧ (s 3021) ≤ 2147483647 := hS 3021
        refine tt_cl (by omega) rfl (k_plain2 (Zi := Zi) (D := D) (s := (us (us s 3019 j2) 3020 j7)) (p := p) (c := c) (by omega) (bS_us (bS_us hS (show -2147483648 ≤ j2 ∧ j2 ≤ 2147483647 by omega)) (show -2147483648 ≤ j7 ∧ j7 ≤ 2147483647 by omega)) hC (s 3021) j7 (by omega) (by omega)) ?_
        rintro _ _ ⟨r81, rfl, rfl, b82, k83⟩
        show tt Zi d 144 (281, [some (.inr (.inl 30)), some (.inr (.inl 46)), some (.inl bits), some (.inl nr), some (.inl top), some (.inl f_), none], [.inl r81, .inr (.inl 30)], n, D, (us (us s 3019 j2) 3020 j7), p, c) _
        replace k83 : r81 = zPl (s 3021) j7 ((s 3017)) := k83
        have b84 : 0 ≤ (s 3017) ∧ (s 3017) ≤ 65535 := hS 3017
        refine tt_k 1 (S' := (287, [some (.inr (.inl 30)), some (.inr (.inl 46)), some (.inl bits), some (.inl nr), some (.inl top), some (.inl f_), none], [.inl r81, .inr (.inl 30)], n, D, (us (us s 3019 j2) 3020 j7), p, c)) rfl ?_
        exact K13 r81  (by omega) (trivial)
    refine tz_ne (x := (c 46 (2 : Int).toNat)) rfl rfl (by omega) (fun h85 => ?_) (fun h85 => ?_)
    · show tt Zi d 144 (256, [some (.inr (.inl 30)), some (.inr (.inl 46)), some (.inl bits), some (.inl nr), some (.inl top), some (.inl f_), none], [.inr (.inl 30)], n, D, (us s 3019 j2), p, c) _
      refine tt_k 2 (S' := (258, [some (.inr (.inl 30)), some (.inr (.inl 46)), some (.inl bits), some (.inl nr), some (.inl top), some (.inl f_), none], [.inl 2, .inr (.inl 46), .inr (.inl 30)], n, D, (us s 3019 j2), p, c)) rfl ?_
      refine tt_ildv (i := 2) (v := (c 46 (2 : Int).toNat)) rfl rfl (by omega) rfl ?_
      show tt Zi d 144 (259, [some (.inr (.inl 30)), some (.inr (.inl 46)), some (.inl bits), some (.inl nr), some (.inl top), some (.inl f_), none], [.inl (c 46 (2 : Int).toNat), .inr (.inl 30)], n, D, (us s 3019 j2), p, c) _
      exact K8 (c 46 (2 : Int).toNat)  (by omega) (trivial)
    · show tt Zi d 144 (241, [some (.inr (.inl 30)), some (.inr (.inl 46)), some (.inl bits), some (.inl nr), some (.inl top), some (.inl f_), none], [.inr (.inl 30)], n, D, (us s 3019 j2), p, c) _
      refine tt_k 5 (S' := (250, [some (.inr (.inl 30)), some (.inr (.inl 46)), some (.inl bits), some (.inl nr), some (.inl top), some (.inl f_), none], [.inl j2, .inl (s 3020), .inr (.inl 30), .inr (.inl 30)], n, D, (us s 3019 j2), p, c)) rfl ?_
      have b86 : -2147483648 ≤ (s 3020) ∧ (s 3020) ≤ 2147483647 := hS 3020
      refine tt_cl (by omega) rfl (k_plain2 (Zi := Zi) (D := D) (s := (us s 3019 j2)) (p := p) (c := c) (by omega) (bS_us hS (show -2147483648 ≤ j2 ∧ j2 ≤ 2147483647 by omega)) hC (s 3020) j2 (by omega) (by omega)) ?_
      rintro _ _ ⟨r87, rfl, rfl, b88, k89⟩
      show tt Zi d 144 (253, [some (.inr (.inl 30)), some (.inr (.inl 46)), some (.inl bits), some (.inl nr), some (.inl top), some (.inl f_), none], [.inl r87, .inr (.inl 30)], n, D, (us s 3019 j2), p, c) _
      replace k89 : r87 = zPl (s 3020) j2 ((s 3017)) := k89
      have b90 : 0 ≤ (s 3017) ∧ (s 3017) ≤ 65535 := hS 3017
      refine tt_k 1 (S' := (259, [some (.inr (.inl 30)), some (.inr (.inl 46)), some (.inl bits), some (.inl nr), some (.inl top), some (.inl f_), none], [.inl r87, .inr (.inl 30)], n, D, (us s 3019 j2), p, c)) rfl ?_
      exact K8 r87  (by omega) (trivial)
  refine tz_ne (x := (c 46 (1 : Int).toNat)) rfl rfl (by omega) (fun h91 => ?_) (fun h91 => ?_)
  · show tt Zi d 144 (228, [some (.inr (.inl 30)), some (.inr (.inl 46)), some (.inl bits), some (.inl nr), some (.inl top), some (.inl f_), none], [.inr (.inl 30)], n, D, s, p, c) _
    refine tt_k 2 (S' := (230, [some (.inr (.inl 30)), some (.inr (.inl 46)), some (.inl bits), some (.inl nr), some (.inl top), some (.inl f_), none], [.inl 1, .inr (.inl 46), .inr (.inl 30)], n, D, s, p, c)) rfl ?_
    refine tt_ildv (i := 1) (v := (c 46 (1 : Int).toNat)) rfl rfl (by omega) rfl ?_
    show tt Zi d 144 (231, [some (.inr (.inl 30)), some (.inr (.inl 46)), some (.inl bits), some (.inl nr), some (.inl top), some (.inl f_), none], [.inl (c 46 (1 : Int).toNat), .inr (.inl 30)], n, D, s, p, c) _
    exact K3 (c 46 (1 : Int).toNat)  (by omega) (trivial)
  · show tt Zi d 144 (211, [some (.inr (.inl 30)), some (.inr (.inl 46)), some (.inl bits), some (.inl nr), some (.inl top), some (.inl f_), none], [.inr (.inl 30)], n, D, s, p, c) _
    refine tt_k 7 (S' := (222, [some (.inr (.inl 30)), some (.inr (.inl 46)), some (.inl bits), some (.inl nr), some (.inl top), some (.inl f_), none], [.inl ((s 3018) + 1), .inl (s 3019), .inr (.inl 30), .inr (.inl 30)], n, D, s, p, c)) rfl ?_
    have b93 : -2147483648 ≤ (s 3018) ∧ (s 3018) ≤ 2147483647 := hS 3018
    refine tt_wm (x := ((s 3018) + 1)) ?_
    intro v92 b94 w95
    show tt Zi d 144 (222, [some (.inr (.inl 30)), some (.inr (.inl 46)), some (.inl bits), some (.inl nr), some (.inl top), some (.inl f_), none], [.inl v92, .inl (s 3019), .inr (.inl 30), .inr (.inl 30)], n, D, s, p, c) _
    have b96 : -2147483648 ≤ (s 3019) ∧ (s 3019) ≤ 2147483647 := hS 3019
    refine tt_cl (by omega) rfl (k_plain2 (Zi := Zi) (D := D) (s := s) (p := p) (c := c) (by omega) hS hC (s 3019) v92 (by omega) (by omega)) ?_
    rintro _ _ ⟨r97, rfl, rfl, b98, k99⟩
    show tt Zi d 144 (225, [some (.inr (.inl 30)), some (.inr (.inl 46)), some (.inl bits), some (.inl nr), some (.inl top), some (.inl f_), none], [.inl r97, .inr (.inl 30)], n, D, s, p, c) _
    replace k99 : r97 = zPl (s 3019) v92 ((s 3017)) := k99
    have b100 : 0 ≤ (s 3017) ∧ (s 3017) ≤ 65535 := hS 3017
    refine tt_k 1 (S' := (231, [some (.inr (.inl 30)), some (.inr (.inl 46)), some (.inl bits), some (.inl nr), some (.inl top), some (.inl f_), none], [.inl r97, .inr (.inl 30)], n, D, s, p, c)) rfl ?_
    exact K3 r97  (by omega) (trivial)
set_option maxRecDepth 100000 in
set_option maxHeartbeats 4000000 in
theorem x_measBR {Zi : Nat → Option (Nat × (Nat → Int))} {d n : Nat} {D : Nat → Nat × Nat} {s : Nat → Int} {p : Nat → Nat} {c : Nat → Nat → Int} (hd : 2 ≤ d) (hS : bS s) (hC : bC D c) (bits : Int) (nr : Int) (b_bits : 2 ≤ bits ∧ bits ≤ 16) (b_nr : -2147483648 ≤ nr ∧ nr ≤ 2147483647) : tt Zi d 144 (0, [some (.inr (.inl 30)), some (.inr (.inl 46)), some (.inl bits), some (.inl nr), none, none, none], [], n, D, s, p, c) (fun R H => ∃ (s' : Nat → Int) (r : Int), R = .inl (some (.inl r)) ∧ H = (n, D, s', p, c) ∧ bS s' ∧ fr s s' [3017, 3018, 3019, 3020, 3021, 3022, 3023, 3024, 3025, 3026] ∧ (0 ≤ r ∧ r ≤ 1) ∧ (r = 1 → 0 ≤ nr ∧ nr ≤ 255)) := by
  have e1 : 4 ≤ (mi_shl 1 bits) ∧ (mi_shl 1 bits) ≤ 65536 := mi_shl1b 2 16 (by omega) (by omega) (by decide)
  refine tt_k 9 (S' := (10, [some (.inr (.inl 30)), some (.inr (.inl 46)), some (.inl bits), some (.inl nr), some (.inl ((mi_shl 1 bits) - 1)), none, none], [.inl 0, .inr (.inl 46), .inr (.inl 30)], n, D, s, p, c)) rfl ?_
  refine tt_ildv (i := 0) (v := (c 46 (0 : Int).toNat)) rfl rfl (by omega) rfl ?_
  show tt Zi d 144 (11, [some (.inr (.inl 30)), some (.inr (.inl 46)), some (.inl bits), some (.inl nr), some (.inl ((mi_shl 1 bits) - 1)), none, none], [.inl (c 46 (0 : Int).toNat), .inr (.inl 30)], n, D, s, p, c) _
  have b2 : 0 ≤ (c 46 (0 : Int).toNat) ∧ (c 46 (0 : Int).toNat) ≤ 65535 := hC 46 _
  have K4 : ∀ (j3 : Int) , (1 ≤ j3 ∧ j3 ≤ 65535) → (True) → tt Zi d 144 (22, [some (.inr (.inl 30)), some (.inr (.inl 46)), some (.inl bits), some (.inl nr), some (.inl ((mi_shl 1 bits) - 1)), none, none], [.inl j3, .inr (.inl 30)], n, D, s, p, c) (fun R H => ∃ (s' : Nat → Int) (r : Int), R = .inl (some (.inl r)) ∧ H = (n, D, s', p, c) ∧ bS s' ∧ fr s s' [3017, 3018, 3019, 3020, 3021, 3022, 3023, 3024, 3025, 3026] ∧ (0 ≤ r ∧ r ≤ 1) ∧ (r = 1 → 0 ≤ nr ∧ nr ≤ 255)) := by
    intro j3 b6 hj5
    refine tt_k 7 (S' := (33, [some (.inr (.inl 30)), some (.inr (.inl 46)), some (.inl bits), some (.inl nr), some (.inl ((mi_shl 1 bits) - 1)), none, none], [.inl 4, .inr (.inl 46), .inr (.inl 30)], n, D, (us (us s 3017 j3) 3018 nr), p, c)) rfl ?_
    refine tt_ildv (i := 4) (v := (c 46 (4 : Int).toNat)) rfl rfl (by omega) rfl ?_
    show tt Zi d 144 (34, [some (.inr (.inl 30)), some (.inr (.inl 46)), some (.inl bits), some (.inl nr), some (.inl ((mi_shl 1 bits) - 1)), none, none], [.inl (c 46 (4 : Int).toNat), .inr (.inl 30)], n, D, (us (us s 3017 j3) 3018 nr), p, c) _
    have b7 : 0 ≤ (c 46 (4 : Int).toNat) ∧ (c 46 (4 : Int).toNat) ≤ 65535 := hC 46 _
    have K9 : ∀ (j8 : Int) , (1 ≤ j8 ∧ j8 ≤ 65535) → (True) → tt Zi d 144 (45, [some (.inr (.inl 30)), some (.inr (.inl 46)), some (.inl bits), some (.inl nr), some (.inl ((mi_shl 1 bits) - 1)), none, none], [.inl j8, .inr (.inl 30)], n, D, (us (us s 3017 j3) 3018 nr), p, c) (fun R H => ∃ (s' : Nat → Int) (r : Int), R = .inl (some (.inl r)) ∧ H = (n, D, s', p, c) ∧ bS s' ∧ fr s s' [3017, 3018, 3019, 3020, 3021, 3022, 3023, 3024, 3025, 3026] ∧ (0 ≤ r ∧ r ≤ 1) ∧ (r = 1 → 0 ≤ nr ∧ nr ≤ 255)) := by
      intro j8 b11 hj10
      refine tt_k 4 (S' := (55, [some (.inr (.inl 30)), some (.inr (.inl 46)), some (.inl bits), some (.inl nr), some (.inl ((mi_shl 1 bits) - 1)), none, none], [.inl 128, .inl j3], n, D, (us (us (us s 3017 j3) 3018 nr) 3022 j8), p, c)) rfl ?_
      refine tb_ge (x := j3) (y := 128) rfl rfl (by omega) (fun h12 => ?_) (fun h12 => ?_)
      · show tt Zi d 144 (133, [some (.inr (.inl 30)), some (.inr (.inl 46)), some (.inl bits), some (.inl nr), some (.inl ((mi_shl 1 bits) - 1)), none, none], [], n, D, (us (us (us s 3017 j3) 3018 nr) 3022 j8), p, c) _
        refine tt_k 3 (S' := (140, [some (.inr (.inl 30)), some (.inr (.inl 46)), some (.inl bits), some (.inl nr), some (.inl ((mi_shl 1 bits) - 1)), none, none], [.inl 4095, .inl j3], n, D, (us (us (us s 3017 j3) 3018 nr) 3022 j8), p, c)) rfl ?_
        refine tt_cl (by omega) rfl (k_less (Zi := Zi) (D := D) (s := (us (us (us s 3017 j3) 3018 nr) 3022 j8)) (p := p) (c := c) (by omega) (bS_us (bS_us (bS_us hS (show 0 ≤ j3 ∧ j3 ≤ 65535 by omega)) (show -2147483648 ≤ nr ∧ nr ≤ 2147483647 by omega)) (show 0 ≤ j8 ∧ j8 ≤ 65535 by omega)) hC j3 4095 (by omega) (by omega)) ?_
        rintro _ _ ⟨r13, rfl, rfl, b14, k15⟩
        show tt Zi d 144 (143, [some (.inr (.inl 30)), some (.inr (.inl 46)), some (.inl bits), some (.inl nr), some (.inl ((mi_shl 1 bits) - 1)), none, none], [.inl r13], n, D, (us (us (us s 3017 j3) 3018 nr) 3022 j8), p, c) _
        replace k15 : r13 = min j3 4095 := k15
        subst k15
        show tt Zi d 144 (143, [some (.inr (.inl 30)), some (.inr (.inl 46)), some (.inl bits), some (.inl nr), some (.inl ((mi_shl 1 bits) - 1)), none, none], [.inl (min j3 4095)], n, D, (us (us (us s 3017 j3) 3018 nr) 3022 j8), p, c) _
        refine tt_k 3 (S' := (150, [some (.inr (.inl 30)), some (.inr (.inl 46)), some (.inl bits), some (.inl nr), some (.inl ((mi_shl 1 bits) - 1)), none, none], [.inl 256, .inl ((min j3 4095) + 128)], n, D, (us (us (us s 3017 j3) 3018 nr) 3022 j8), p, c)) rfl ?_
        refine tt_div (x := ((min j3 4095) + 128)) (y := 256) rfl (by omega) ?_
        show tt Zi d 144 (151, [some (.inr (.inl 30)), some (.inr (.inl 46)), some (.inl bits), some (.inl nr), some (.inl ((mi_shl 1 bits) - 1)), none, none], [.inl ((Int.tdiv ((min j3 4095) + 128) 256))], n, D, (us (us (us s 3017 j3) 3018 nr) 3022 j8), p, c) _
        have b16 := tdv_bd (x := ((min j3 4095) + 128)) (y := 256) (a := 2147483775) (by omega) (by omega) (by omega)
        refine tt_k 10 (S' := (165, [some (.inr (.inl 30)), some (.inr (.inl 46)), some (.inl bits), some (.inl nr), some (.inl ((mi_shl 1 bits) - 1)), some (.inl ((Int.tdiv ((min j3 4095) + 128) 256))), none], [.inl ((((Int.tdiv ((min j3 4095) + 128) 256) + 2) + (3 * nr))), .inr (.inl 30)], n, D, (us (us (us s 3017 j3) 3018 nr) 3022 j8), p, c)) rfl ?_
        refine tt_wm (x := (((Int.tdiv ((min j3 4095) + 128) 256) + 2) + (3 * nr))) ?_
        intro v17 b18 w19
        show tt Zi d 144 (165, [some (.inr (.inl 30)), some (.inr (.inl 46)), some (.inl bits), some (.inl nr), some (.inl ((mi_shl 1 bits) - 1)), some (.inl ((Int.tdiv ((min j3 4095) + 128) 256))), none], [.inl v17, .inr (.inl 30)], n, D, (us (us (us s 3017 j3) 3018 nr) 3022 j8), p, c) _
        refine tt_k 12 (S' := (182, [some (.inr (.inl 30)), some (.inr (.inl 46)), some (.inl bits), some (.inl nr), some (.inl ((mi_shl 1 bits) - 1)), some (.inl ((Int.tdiv ((min j3 4095) + 128) 256))), none], [.inl ((((4 * (Int.tdiv ((min j3 4095) + 128) 256)) + 3) + (5 * nr))), .inr (.inl 30)], n, D, (us (us (us (us s 3017 j3) 3018 nr) 3022 j8) 3019 v17), p, c)) rfl ?_
        refine tt_wm (x := (((4 * (Int.tdiv ((min j3 4095) + 128) 256)) + 3) + (5 * nr))) ?_
        intro v20 b21 w22
        show tt Zi d 144 (182, [some (.inr (.inl 30)), some (.inr (.inl 46)), some (.inl bits), some (.inl nr), some (.inl ((mi_shl 1 bits) - 1)), some (.inl ((Int.tdiv ((min j3 4095) + 128) 256))), none], [.inl v20, .inr (.inl 30)], n, D, (us (us (us (us s 3017 j3) 3018 nr) 3022 j8) 3019 v17), p, c) _
        refine tt_k 12 (S' := (201, [some (.inr (.inl 30)), some (.inr (.inl 46)), some (.inl bits), some (.inl nr), some (.inl ((mi_shl 1 bits) - 1)), some (.inl ((Int.tdiv ((min j3 4095) + 128) 256))), none], [.inl ((((17 * (Int.tdiv ((min j3 4095) + 128) 256)) + 4) + (7 * nr))), .inr (.inl 30)], n, D, (us (us (us (us (us s 3017 j3) 3018 nr) 3022 j8) 3019 v17) 3020 v20), p, c)) rfl ?_
        refine tt_wm (x := (((17 * (Int.tdiv ((min j3 4095) + 128) 256)) + 4) + (7 * nr))) ?_
        intro v23 b24 w25
        show tt Zi d 144 (201, [some (.inr (.inl 30)), some (.inr (.inl 46)), some (.inl bits), some (.inl nr), some (.inl ((mi_shl 1 bits) - 1)), some (.inl ((Int.tdiv ((min j3 4095) + 128) 256))), none], [.inl v23, .inr (.inl 30)], n, D, (us (us (us (us (us s 3017 j3) 3018 nr) 3022 j8) 3019 v17) 3020 v20), p, c) _
        refine tt_k 1 (S' := (204, [some (.inr (.inl 30)), some (.inr (.inl 46)), some (.inl bits), some (.inl nr), some (.inl ((mi_shl 1 bits) - 1)), some (.inl ((Int.tdiv ((min j3 4095) + 128) 256))), none], [], n, D, (us (us (us (us (us (us s 3017 j3) 3018 nr) 3022 j8) 3019 v17) 3020 v20) 3021 v23), p, c)) rfl ?_
        refine tt_mono (x_measDR (Zi := Zi) (D := D) (s := (us (us (us (us (us (us s 3017 j3) 3018 nr) 3022 j8) 3019 v17) 3020 v20) 3021 v23)) (p := p) (c := c) (by omega) (bS_us (bS_us (bS_us (bS_us (bS_us (bS_us hS (show 0 ≤ j3 ∧ j3 ≤ 65535 by omega)) (show -2147483648 ≤ nr ∧ nr ≤ 2147483647 by omega)) (show 0 ≤ j8 ∧ j8 ≤ 65535 by omega)) (show -2147483648 ≤ v17 ∧ v17 ≤ 2147483647 by omega)) (show -2147483648 ≤ v20 ∧ v20 ≤ 2147483647 by omega)) (show -2147483648 ≤ v23 ∧ v23 ≤ 2147483647 by omega)) hC bits nr ((mi_shl 1 bits) - 1) ((Int.tdiv ((min j3 4095) + 128) 256)) (by omega) (by omega) (by omega) (show nr = nr by omega)) ?_
        rintro _ _ ⟨s26, r27, rfl, rfl, hS26, f28, b29, k30⟩
        exact ⟨s26, r27, rfl, rfl, hS26, (fr_tr (fr_us (by decide) (fr_us (by decide) (fr_us (by decide) (fr_us (by decide) (fr_us (by decide) (fr_us (by decide) fr_rf)))))) f28 (by decide)), by omega, k30⟩
      · show tt Zi d 144 (58, [some (.inr (.inl 30)), some (.inr (.inl 46)), some (.inl bits), some (.inl nr), some (.inl ((mi_shl 1 bits) - 1)), none, none], [], n, D, (us (us (us s 3017 j3) 3018 nr) 3022 j8), p, c) _
        refine tt_k 5 (S' := (67, [some (.inr (.inl 30)), some (.inr (.inl 46)), some (.inl bits), some (.inl nr), some (.inl ((mi_shl 1 bits) - 1)), none, none], [.inl (j3 + 1), .inl 256], n, D, (us (us (us s 3017 j3) 3018 nr) 3022 j8), p, c)) rfl ?_
        refine tt_dvp (x := 256) (y := (j3 + 1)) rfl (by omega) ?_
        show tt Zi d 144 (68, [some (.inr (.inl 30)), some (.inr (.inl 46)), some (.inl bits), some (.inl nr), some (.inl ((mi_shl 1 bits) - 1)), none, none], [.inl (256 / (j3 + 1))], n, D, (us (us (us s 3017 j3) 3018 nr) 3022 j8), p, c) _
        have b31 : 0 ≤ (256 / (j3 + 1)) ∧ (256 / (j3 + 1)) ≤ 256 := td_le (by omega) (by omega)
        have b32 : 1 ≤ (256 / (j3 + 1)) := dv_ge1 (by omega) (by omega)
        refine tt_k 5 (S' := (75, [some (.inr (.inl 30)), some (.inr (.inl 46)), some (.inl bits), some (.inl nr), some (.inl ((mi_shl 1 bits) - 1)), some (.inl (256 / (j3 + 1))), none], [.inl (256 / (j3 + 1)), .inl 3, .inl 2, .inr (.inl 30)], n, D, (us (us (us s 3017 j3) 3018 nr) 3022 j8), p, c)) rfl ?_
        refine tt_dvp (x := 3) (y := (256 / (j3 + 1))) rfl (by omega) ?_
        show tt Zi d 144 (76, [some (.inr (.inl 30)), some (.inr (.inl 46)), some (.inl bits), some (.inl nr), some (.inl ((mi_shl 1 bits) - 1)), some (.inl (256 / (j3 + 1))), none], [.inl ((3 / (256 / (j3 + 1)))), .inl 2, .inr (.inl 30)], n, D, (us (us (us s 3017 j3) 3018 nr) 3022 j8), p, c) _
        have b33 : 0 ≤ (3 / (256 / (j3 + 1))) ∧ (3 / (256 / (j3 + 1))) ≤ 3 := td_le (by omega) (by omega)
        refine tt_k 5 (S' := (83, [some (.inr (.inl 30)), some (.inr (.inl 46)), some (.inl bits), some (.inl nr), some (.inl ((mi_shl 1 bits) - 1)), some (.inl (256 / (j3 + 1))), none], [.inl (((3 / (256 / (j3 + 1))) + (3 * nr))), .inl 2, .inr (.inl 30)], n, D, (us (us (us s 3017 j3) 3018 nr) 3022 j8), p, c)) rfl ?_
        refine tt_wm (x := ((3 / (256 / (j3 + 1))) + (3 * nr))) ?_
        intro v34 b35 w36
        show tt Zi d 144 (83, [some (.inr (.inl 30)), some (.inr (.inl 46)), some (.inl bits), some (.inl nr), some (.inl ((mi_shl 1 bits) - 1)), some (.inl (256 / (j3 + 1))), none], [.inl v34, .inl 2, .inr (.inl 30)], n, D, (us (us (us s 3017 j3) 3018 nr) 3022 j8), p, c) _
        refine tt_cl (by omega) rfl (k_more (Zi := Zi) (D := D) (s := (us (us (us s 3017 j3) 3018 nr) 3022 j8)) (p := p) (c := c) (by omega) (bS_us (bS_us (bS_us hS (show 0 ≤ j3 ∧ j3 ≤ 65535 by omega)) (show -2147483648 ≤ nr ∧ nr ≤ 2147483647 by omega)) (show 0 ≤ j8 ∧ j8 ≤ 65535 by omega)) hC 2 v34 (by omega) (by omega)) ?_
        rintro _ _ ⟨r37, rfl, rfl, b38, k39⟩
        show tt Zi d 144 (86, [some (.inr (.inl 30)), some (.inr (.inl 46)), some (.inl bits), some (.inl nr), some (.inl ((mi_shl 1 bits) - 1)), some (.inl (256 / (j3 + 1))), none], [.inl r37, .inr (.inl 30)], n, D, (us (us (us s 3017 j3) 3018 nr) 3022 j8), p, c) _
        replace k39 : r37 = max 2 v34 := k39
        subst k39
        show tt Zi d 144 (86, [some (.inr (.inl 30)), some (.inr (.inl 46)), some (.inl bits), some (.inl nr), some (.inl ((mi_shl 1 bits) - 1)), some (.inl (256 / (j3 + 1))), none], [.inl (max 2 v34), .inr (.inl 30)], n, D, (us (us (us s 3017 j3) 3018 nr) 3022 j8), p, c) _
        refine tt_k 5 (S' := (95, [some (.inr (.inl 30)), some (.inr (.inl 46)), some (.inl bits), some (.inl nr), some (.inl ((mi_shl 1 bits) - 1)), some (.inl (256 / (j3 + 1))), none], [.inl (256 / (j3 + 1)), .inl 7, .inl 3, .inr (.inl 30)], n, D, (us (us (us (us s 3017 j3) 3018 nr) 3022 j8) 3019 (max 2 v34)), p, c)) rfl ?_
        refine tt_dvp (x := 7) (y := (256 / (j3 + 1))) rfl (by omega) ?_
        show tt Zi d 144 (96, [some (.inr (.inl 30)), some (.inr (.inl 46)), some (.inl bits), some (.inl nr), some (.inl ((mi_shl 1 bits) - 1)), some (.inl (256 / (j3 + 1))), none], [.inl ((7 / (256 / (j3 + 1)))), .inl 3, .inr (.inl 30)], n, D, (us (us (us (us s 3017 j3) 3018 nr) 3022 j8) 3019 (max 2 v34)), p, c) _
        have b40 : 0 ≤ (7 / (256 / (j3 + 1))) ∧ (7 / (256 / (j3 + 1))) ≤ 7 := td_le (by omega) (by omega)
        refine tt_k 5 (S' := (103, [some (.inr (.inl 30)), some (.inr (.inl 46)), some (.inl bits), some (.inl nr), some (.inl ((mi_shl 1 bits) - 1)), some (.inl (256 / (j3 + 1))), none], [.inl (((7 / (256 / (j3 + 1))) + (5 * nr))), .inl 3, .inr (.inl 30)], n, D, (us (us (us (us s 3017 j3) 3018 nr) 3022 j8) 3019 (max 2 v34)), p, c)) rfl ?_
        refine tt_wm (x := ((7 / (256 / (j3 + 1))) + (5 * nr))) ?_
        intro v41 b42 w43
        show tt Zi d 144 (103, [some (.inr (.inl 30)), some (.inr (.inl 46)), some (.inl bits), some (.inl nr), some (.inl ((mi_shl 1 bits) - 1)), some (.inl (256 / (j3 + 1))), none], [.inl v41, .inl 3, .inr (.inl 30)], n, D, (us (us (us (us s 3017 j3) 3018 nr) 3022 j8) 3019 (max 2 v34)), p, c) _
        refine tt_cl (by omega) rfl (k_more (Zi := Zi) (D := D) (s := (us (us (us (us s 3017 j3) 3018 nr) 3022 j8) 3019 (max 2 v34))) (p := p) (c := c) (by omega) (bS_us (bS_us (bS_us (bS_us hS (show 0 ≤ j3 ∧ j3 ≤ 65535 by omega)) (show -2147483648 ≤ nr ∧ nr ≤ 2147483647 by omega)) (show 0 ≤ j8 ∧ j8 ≤ 65535 by omega)) (show -2147483648 ≤ (max 2 v34) ∧ (max 2 v34) ≤ 2147483647 by omega)) hC 3 v41 (by omega) (by omega)) ?_
        rintro _ _ ⟨r44, rfl, rfl, b45, k46⟩
        show tt Zi d 144 (106, [some (.inr (.inl 30)), some (.inr (.inl 46)), some (.inl bits), some (.inl nr), some (.inl ((mi_shl 1 bits) - 1)), some (.inl (256 / (j3 + 1))), none], [.inl r44, .inr (.inl 30)], n, D, (us (us (us (us s 3017 j3) 3018 nr) 3022 j8) 3019 (max 2 v34)), p, c) _
        replace k46 : r44 = max 3 v41 := k46
        subst k46
        show tt Zi d 144 (106, [some (.inr (.inl 30)), some (.inr (.inl 46)), some (.inl bits), some (.inl nr), some (.inl ((mi_shl 1 bits) - 1)), some (.inl (256 / (j3 + 1))), none], [.inl (max 3 v41), .inr (.inl 30)], n, D, (us (us (us (us s 3017 j3) 3018 nr) 3022 j8) 3019 (max 2 v34)), p, c) _
        refine tt_k 5 (S' := (115, [some (.inr (.inl 30)), some (.inr (.inl 46)), some (.inl bits), some (.inl nr), some (.inl ((mi_shl 1 bits) - 1)), some (.inl (256 / (j3 + 1))), none], [.inl (256 / (j3 + 1)), .inl 21, .inl 4, .inr (.inl 30)], n, D, (us (us (us (us (us s 3017 j3) 3018 nr) 3022 j8) 3019 (max 2 v34)) 3020 (max 3 v41)), p, c)) rfl ?_
        refine tt_dvp (x := 21) (y := (256 / (j3 + 1))) rfl (by omega) ?_
        show tt Zi d 144 (116, [some (.inr (.inl 30)), some (.inr (.inl 46)), some (.inl bits), some (.inl nr), some (.inl ((mi_shl 1 bits) - 1)), some (.inl (256 / (j3 + 1))), none], [.inl ((21 / (256 / (j3 + 1)))), .inl 4, .inr (.inl 30)], n, D, (us (us (us (us (us s 3017 j3) 3018 nr) 3022 j8) 3019 (max 2 v34)) 3020 (max 3 v41)), p, c) _
        have b47 : 0 ≤ (21 / (256 / (j3 + 1))) ∧ (21 / (256 / (j3 + 1))) ≤ 21 := td_le (by omega) (by omega)
        refine tt_k 5 (S' := (124, [some (.inr (.inl 30)), some (.inr (.inl 46)), some (.inl bits), some (.inl nr), some (.inl ((mi_shl 1 bits) - 1)), some (.inl (256 / (j3 + 1))), none], [.inl (((21 / (256 / (j3 + 1))) + (7 * nr))), .inl 4, .inr (.inl 30)], n, D, (us (us (us (us (us s 3017 j3) 3018 nr) 3022 j8) 3019 (max 2 v34)) 3020 (max 3 v41)), p, c)) rfl ?_
        refine tt_wm (x := ((21 / (256 / (j3 + 1))) + (7 * nr))) ?_
        intro v48 b49 w50
        show tt Zi d 144 (124, [some (.inr (.inl 30)), some (.inr (.inl 46)), some (.inl bits), some (.inl nr), some (.inl ((mi_shl 1 bits) - 1)), some (.inl (256 / (j3 + 1))), none], [.inl v48, .inl 4, .inr (.inl 30)], n, D, (us (us (us (us (us s 3017 j3) 3018 nr) 3022 j8) 3019 (max 2 v34)) 3020 (max 3 v41)), p, c) _
        refine tt_cl (by omega) rfl (k_more (Zi := Zi) (D := D) (s := (us (us (us (us (us s 3017 j3) 3018 nr) 3022 j8) 3019 (max 2 v34)) 3020 (max 3 v41))) (p := p) (c := c) (by omega) (bS_us (bS_us (bS_us (bS_us (bS_us hS (show 0 ≤ j3 ∧ j3 ≤ 65535 by omega)) (show -2147483648 ≤ nr ∧ nr ≤ 2147483647 by omega)) (show 0 ≤ j8 ∧ j8 ≤ 65535 by omega)) (show -2147483648 ≤ (max 2 v34) ∧ (max 2 v34) ≤ 2147483647 by omega)) (show -2147483648 ≤ (max 3 v41) ∧ (max 3 v41) ≤ 2147483647 by omega)) hC 4 v48 (by omega) (by omega)) ?_
        rintro _ _ ⟨r51, rfl, rfl, b52, k53⟩
        show tt Zi d 144 (127, [some (.inr (.inl 30)), some (.inr (.inl 46)), some (.inl bits), some (.inl nr), some (.inl ((mi_shl 1 bits) - 1)), some (.inl (256 / (j3 + 1))), none], [.inl r51, .inr (.inl 30)], n, D, (us (us (us (us (us s 3017 j3) 3018 nr) 3022 j8) 3019 (max 2 v34)) 3020 (max 3 v41)), p, c) _
        replace k53 : r51 = max 4 v48 := k53
        subst k53
        show tt Zi d 144 (127, [some (.inr (.inl 30)), some (.inr (.inl 46)), some (.inl bits), some (.inl nr), some (.inl ((mi_shl 1 bits) - 1)), some (.inl (256 / (j3 + 1))), none], [.inl (max 4 v48), .inr (.inl 30)], n, D, (us (us (us (us (us s 3017 j3) 3018 nr) 3022 j8) 3019 (max 2 v34)) 3020 (max 3 v41)), p, c) _
        refine tt_k 2 (S' := (204, [some (.inr (.inl 30)), some (.inr (.inl 46)), some (.inl bits), some (.inl nr), some (.inl ((mi_shl 1 bits) - 1)), some (.inl (256 / (j3 + 1))), none], [], n, D, (us (us (us (us (us (us s 3017 j3) 3018 nr) 3022 j8) 3019 (max 2 v34)) 3020 (max 3 v41)) 3021 (max 4 v48)), p, c)) rfl ?_
        refine tt_mono (x_measDR (Zi := Zi) (D := D) (s := (us (us (us (us (us (us s 3017 j3) 3018 nr) 3022 j8) 3019 (max 2 v34)) 3020 (max 3 v41)) 3021 (max 4 v48))) (p := p) (c := c) (by omega) (bS_us (bS_us (bS_us (bS_us (bS_us (bS_us hS (show 0 ≤ j3 ∧ j3 ≤ 65535 by omega)) (show -2147483648 ≤ nr ∧ nr ≤ 2147483647 by omega)) (show 0 ≤ j8 ∧ j8 ≤ 65535 by omega)) (show -2147483648 ≤ (max 2 v34) ∧ (max 2 v34) ≤ 2147483647 by omega)) (show -2147483648 ≤ (max 3 v41) ∧ (max 3 v41) ≤ 2147483647 by omega)) (show -2147483648 ≤ (max 4 v48) ∧ (max 4 v48) ≤ 2147483647 by omega)) hC bits nr ((mi_shl 1 bits) - 1) (256 / (j3 + 1)) (by omega) (by omega) (by omega) (show nr = nr by omega)) ?_
        rintro _ _ ⟨s54, r55, rfl, rfl, hS54, f56, b57, k58⟩
        exact ⟨s54, r55, rfl, rfl, hS54, (fr_tr (fr_us (by decide) (fr_us (by decide) (fr_us (by decide) (fr_us (by decide) (fr_us (by decide) (fr_us (by decide) fr_rf)))))) f56 (by decide)), by omega, k58⟩
    refine tz_ne (x := (c 46 (4 : Int).toNat)) rfl rfl (by omega) (fun h59 => ?_) (fun h59 => ?_)
    · show tt Zi d 144 (42, [some (.inr (.inl 30)), some (.inr (.inl 46)), some (.inl bits), some (.inl nr), some (.inl ((mi_shl 1 bits) - 1)), none, none], [.inr (.inl 30)], n, D, (us (us s 3017 j3) 3018 nr), p, c) _
      refine tt_k 2 (S' := (44, [some (.inr (.inl 30)), some (.inr (.inl 46)), some (.inl bits), some (.inl nr), some (.inl ((mi_shl 1 bits) - 1)), none, none], [.inl 4, .inr (.inl 46), .inr (.inl 30)], n, D, (us (us s 3017 j3) 3018 nr), p, c)) rfl ?_
      refine tt_ildv (i := 4) (v := (c 46 (4 : Int).toNat)) rfl rfl (by omega) rfl ?_
      show tt Zi d 144 (45, [some (.inr (.inl 30)), some (.inr (.inl 46)), some (.inl bits), some (.inl nr), some (.inl ((mi_shl 1 bits) - 1)), none, none], [.inl (c 46 (4 : Int).toNat), .inr (.inl 30)], n, D, (us (us s 3017 j3) 3018 nr), p, c) _
      exact K9 (c 46 (4 : Int).toNat)  (by omega) (trivial)
    · show tt Zi d 144 (37, [some (.inr (.inl 30)), some (.inr (.inl 46)), some (.inl bits), some (.inl nr), some (.inl ((mi_shl 1 bits) - 1)), none, none], [.inr (.inl 30)], n, D, (us (us s 3017 j3) 3018 nr), p, c) _
      refine tt_k 2 (S' := (45, [some (.inr (.inl 30)), some (.inr (.inl 46)), some (.inl bits), some (.inl nr), some (.inl ((mi_shl 1 bits) - 1)), none, none], [.inl 64, .inr (.inl 30)], n, D, (us (us s 3017 j3) 3018 nr), p, c)) rfl ?_
      exact K9 64  (by omega) (trivial)
  refine tz_ne (x := (c 46 (0 : Int).toNat)) rfl rfl (by omega) (fun h60 => ?_) (fun h60 => ?_)
  · show tt Zi d 144 (19, [some (.inr (.inl 30)), some (.inr (.inl 46)), some (.inl bits), some (.inl nr), some (.inl ((mi_shl 1 bits) - 1)), none, none], [.inr (.inl 30)], n, D, s, p, c) _
    refine tt_k 2 (S' := (21, [some (.inr (.inl 30)), some (.inr (.inl 46)), some (.inl bits), some (.inl nr), some (.inl ((mi_shl 1 bits) - 1)), none, none], [.inl 0, .inr (.inl 46), .inr (.inl 30)], n, D, s, p, c)) rfl ?_
    refine tt_ildv (i := 0) (v := (c 46 (0 : Int).toNat)) rfl rfl (by omega) rfl ?_
    show tt Zi d 144 (22, [some (.inr (.inl 30)), some (.inr (.inl 46)), some (.inl bits), some (.inl nr), some (.inl ((mi_shl 1 bits) - 1)), none, none], [.inl (c 46 (0 : Int).toNat), .inr (.inl 30)], n, D, s, p, c) _
    exact K4 (c 46 (0 : Int).toNat)  (by omega) (trivial)
  · show tt Zi d 144 (14, [some (.inr (.inl 30)), some (.inr (.inl 46)), some (.inl bits), some (.inl nr), some (.inl ((mi_shl 1 bits) - 1)), none, none], [.inr (.inl 30)], n, D, s, p, c) _
    refine tt_k 2 (S' := (22, [some (.inr (.inl 30)), some (.inr (.inl 46)), some (.inl bits), some (.inl nr), some (.inl ((mi_shl 1 bits) - 1)), none, none], [.inl ((mi_shl 1 bits) - 1), .inr (.inl 30)], n, D, s, p, c)) rfl ?_
    exact K4 ((mi_shl 1 bits) - 1)  (by omega) (trivial)
set_option maxRecDepth 100000 in
set_option maxHeartbeats 4000000 in
theorem x_measR {Zi : Nat → Option (Nat × (Nat → Int))} {d n : Nat} {D : Nat → Nat × Nat} {s : Nat → Int} {p : Nat → Nat} {c : Nat → Nat → Int} (hd : 2 ≤ d) (hS : bS s) (hC : bC D c) (bits : Int) (nr : Int) (b_bits : 2 ≤ bits ∧ bits ≤ 16) (b_nr : -2147483648 ≤ nr ∧ nr ≤ 2147483647) : tt Zi d 144 (0, [some (.inr (.inl 30)), some (.inr (.inl 46)), some (.inl bits), some (.inl nr), none, none, none], [], n, D, s, p, c) (fun R H => ∃ (s' : Nat → Int) (r : Int), R = .inl (some (.inl r)) ∧ H = (n, D, s', p, c) ∧ bS s' ∧ fr s s' [3017, 3018, 3019, 3020, 3021, 3022, 3023, 3024, 3025, 3026] ∧ (0 ≤ r ∧ r ≤ 1) ∧ ((r = 1 ∧ VM (c 46 0) (c 46 1) (c 46 2) (c 46 3) (c 46 4) bits nr ∧ zq (ZM (c 46 0) (c 46 1) (c 46 2) (c 46 3) (c 46 4) bits nr) (s' 3017) (s' 3018) (s' 3019) (s' 3020) (s' 3021) (s' 3022) (s' 3023) (s' 3024) (s' 3025) (s' 3026)) ∨ (r = 0 ∧ ¬ VM (c 46 0) (c 46 1) (c 46 2) (c 46 3) (c 46 4) bits nr))) := by
  by_cases hn : 0 ≤ nr ∧ nr ≤ 255
  · exact x_measAR hd hS hC bits nr b_bits hn
  · refine tt_mono (x_measBR (Zi := Zi) (D := D) (s := s) (p := p) (c := c) hd hS hC bits nr b_bits b_nr) ?_
    rintro _ _ ⟨s1, r, rfl, rfl, hS1, f, b, k⟩
    exact ⟨s1, r, rfl, rfl, hS1, f, b, Or.inr ⟨by omega, fun h => hn h.2.1⟩⟩
set_option maxRecDepth 100000 in
set_option maxHeartbeats 4000000 in
theorem v_readScan {Zi : Nat → Option (Nat × (Nat → Int))} {d n : Nat} {D : Nat → Nat × Nat} {s : Nat → Int} {p : Nat → Nat} {c : Nat → Nat → Int} (hd : 8 ≤ d) (hS : bS s) (hC : bC D c) (A : TN) (aa : Int) (hp0 : tpl A (s 3014) (c 34)) (hp1 : s 3050 = 0) (hp2 : (2 ≤ s 3060 ∧ s 3060 ≤ 16) ∧ (1 ≤ s 3057 ∧ s 3057 ≤ 64) ∧ (1 ≤ s 3058 ∧ s 3058 ≤ 64)) (hp3 : s 3061 < s 3059) (hp4 : s 3049 = aa + 2) (hp5 : gT A aa = 8) (hp6 : 0 ≤ aa) : tt Zi d 196 (0, [some (.inr (.inl 30)), none, none], [], n, D, s, p, c) (fun R H => ∃ (s' : Nat → Int) (c' : Nat → Nat → Int), R = .inl none ∧ H = (n, D, s', p, c') ∧ bS s' ∧ bC D c' ∧ fr s s' [3017, 3018, 3019, 3020, 3021, 3022, 3023, 3024, 3025, 3026, 3035, 3036, 3037, 3038, 3039, 3041, 3042, 3043, 3044, 3045, 3046, 3049, 3050, 3051, 3052, 3053, 3054, 3061] ∧ frc c c' [36, 37, 38, 39, 40, 41, 42, 43, 44] ∧ (s' 3050 = 0 → ∃ X, ((okS A aa (c 45 (s 3061).toNat)) ∧ VM (c 46 0) (c 46 1) (c 46 2) (c 46 3) (c 46 4) (s 3060) (gB A (aa + 5))) ∧ (plQ A (ZM (c 46 0) (c 46 1) (c 46 2) (c 46 3) (c 46 4) (s 3060) (gB A (aa + 5))) (s 3057) (s 3058) 5000 0 0 ((aa + 8, 0, 0), mB ((ZM (c 46 0) (c 46 1) (c 46 2) (c 46 3) (c 46 4) (s 3060) (gB A (aa + 5))) 3024), 0, fun _ => 0)) = some X ∧ s' 3049 = (if X.1.2.1 = 255 then X.1.1 + 1 else X.1.1) ∧ mrl X.2.1 (c' 40) (c' 41) (c' 42) (c' 43) ∧ trl X.2.2.2 (4096 * s 3061) (s 3057) 0 (s 3058) (c' 44) ∧ ofr (4096 * s 3061) (c 44) (c' 44)) ∧ (s' 3050 ≠ 0 → ¬ ((okS A aa (c 45 (s 3061).toNat)) ∧ VM (c 46 0) (c 46 1) (c 46 2) (c 46 3) (c 46 4) (s 3060) (gB A (aa + 5))) ∨ (plQ A (ZM (c 46 0) (c 46 1) (c 46 2) (c 46 3) (c 46 4) (s 3060) (gB A (aa + 5))) (s 3057) (s 3058) 5000 0 0 ((aa + 8, 0, 0), mB ((ZM (c 46 0) (c 46 1) (c 46 2) (c 46 3) (c 46 4) (s 3060) (gB A (aa + 5))) 3024), 0, fun _ => 0)) = none) ∧ (s' 3050 ≠ 0 → c' 40 = c 40 ∧ c' 41 = c 41 ∧ c' 42 = c 42 ∧ c' 43 = c 43) ∧ (s' 3050 = 0 → s' 3061 = s 3061 + 1) ∧ (s' 3050 = 0 → s 3049 ≤ s' 3049)) := by
  have hA := hp0.1
  have b1 : 0 ≤ (s 3049) ∧ (s 3049) ≤ 32769 := hS 3049
  have b2 : 0 ≤ (s 3014) ∧ (s 3014) ≤ 32768 := hS 3014
  have b3 : 0 ≤ (s 3050) ∧ (s 3050) ≤ 8 := hS 3050
  have b4 : 0 ≤ (s 3059) ∧ (s 3059) ≤ 3 := hS 3059
  have b5 : 0 ≤ (s 3061) ∧ (s 3061) ≤ 3 := hS 3061
  have b6 : 0 ≤ (s 3060) ∧ (s 3060) ≤ 255 := hS 3060
  have b7 : 0 ≤ (s 3057) ∧ (s 3057) ≤ 65535 := hS 3057
  have b8 : 0 ≤ (s 3058) ∧ (s 3058) ≤ 65535 := hS 3058
  refine tt_k 2 (S' := (2, [some (.inr (.inl 30)), none, none], [.inl 1, .inr (.inl 30)], n, D, s, p, c)) rfl ?_
  refine tt_cl (by omega) rfl (v_want (Zi := Zi) (D := D) (s := s) (p := p) (c := c) (by omega) hS hC A 1 (by omega) hp0) ?_
  rintro _ _ ⟨s9, rfl, rfl, hS9, f10, k11, k12, k13, k14⟩
  show tt Zi d 196 (5, [some (.inr (.inl 30)), none, none], [], n, D, s9, p, c) _
  replace k11 : (s9 3050) = 0 → ((s 3049) < A.2 ∧ gB A ((s 3049)) = 1) ∧ (s9 3049) = (s 3049) + 1 ∧ (s9 3049) ≤ (s 3014) := k11
  replace k12 : (s 3050) = 0 → (s9 3050) ≠ 0 → A.2 ≤ (s 3049) ∨ gB A ((s 3049)) ≠ 1 := k12
  replace k13 : (s 3050) ≠ 0 → (s9 3050) ≠ 0 := k13
  replace k14 : (s 3049) ≤ (s9 3049) := k14
  have b15 : 0 ≤ (s9 3050) ∧ (s9 3050) ≤ 8 := hS9 3050
  have b16 : 0 ≤ (s9 3049) ∧ (s9 3049) ≤ 32769 := hS9 3049
  have e17 : s9 3014 = (s 3014) := (f10 3014 (by decide))
  have b18 : 0 ≤ (s9 3014) ∧ (s9 3014) ≤ 32768 := hS9 3014
  have e19 : s9 3061 = (s 3061) := (f10 3061 (by decide))
  have b20 : 0 ≤ (s9 3061) ∧ (s9 3061) ≤ 3 := hS9 3061
  have e21 : s9 3060 = (s 3060) := (f10 3060 (by decide))
  have b22 : 0 ≤ (s9 3060) ∧ (s9 3060) ≤ 255 := hS9 3060
  have e23 : s9 3057 = (s 3057) := (f10 3057 (by decide))
  have b24 : 0 ≤ (s9 3057) ∧ (s9 3057) ≤ 65535 := hS9 3057
  have e25 : s9 3058 = (s 3058) := (f10 3058 (by decide))
  have b26 : 0 ≤ (s9 3058) ∧ (s9 3058) ≤ 65535 := hS9 3058
  have hx27 : tpl A (s9 3014) (c 34) := by rw [f10 3014 (by decide)]; exact hp0
  by_cases hf2 : s9 3050 = 0
  · skip
    have hb2 := k11 hf2
    rw [show s 3049 = aa + 2 by omega] at hb2
    refine tt_k 2 (S' := (9, [some (.inr (.inl 30)), none, none], [.inl (s9 3050)], n, D, s9, p, c)) rfl ?_
    refine tz_ne (x := (s9 3050)) rfl rfl (by omega) (fun h28 => ?_) (fun h28 => ?_)
    · exfalso; omega
    · show tt Zi d 196 (12, [some (.inr (.inl 30)), none, none], [], n, D, s9, p, c) _
      refine tt_k 5 (S' := (21, [some (.inr (.inl 30)), none, none], [.inl (s9 3061), .inr (.inl 45), .inr (.inl 30)], n, D, s9, p, c)) rfl ?_
      refine tt_ildv (i := (s9 3061)) (v := (c 45 ((s9 3061)).toNat)) rfl rfl (by omega) rfl ?_
      show tt Zi d 196 (22, [some (.inr (.inl 30)), none, none], [.inl ((c 45 ((s9 3061)).toNat)), .inr (.inl 30)], n, D, s9, p, c) _
      have b29 : -2147483648 ≤ (c 45 ((s9 3061)).toNat) ∧ (c 45 ((s9 3061)).toNat) ≤ 2147483647 := hC 45 _
      refine tt_cl (by omega) rfl (v_want (Zi := Zi) (D := D) (s := s9) (p := p) (c := c) (by omega) hS9 hC A ((c 45 ((s9 3061)).toNat)) (by omega) hx27) ?_
      rintro _ _ ⟨s30, rfl, rfl, hS30, f31, k32, k33, k34, k35⟩
      show tt Zi d 196 (25, [some (.inr (.inl 30)), none, none], [], n, D, s30, p, c) _
      replace k32 : (s30 3050) = 0 → ((s9 3049) < A.2 ∧ gB A ((s9 3049)) = ((c 45 ((s9 3061)).toNat))) ∧ (s30 3049) = (s9 3049) + 1 ∧ (s30 3049) ≤ (s9 3014) := k32
      replace k33 : (s9 3050) = 0 → (s30 3050) ≠ 0 → A.2 ≤ (s9 3049) ∨ gB A ((s9 3049)) ≠ ((c 45 ((s9 3061)).toNat)) := k33
      replace k34 : (s9 3050) ≠ 0 → (s30 3050) ≠ 0 := k34
      replace k35 : (s9 3049) ≤ (s30 3049) := k35
      have b36 : 0 ≤ (s30 3050) ∧ (s30 3050) ≤ 8 := hS30 3050
      have b37 : 0 ≤ (s30 3049) ∧ (s30 3049) ≤ 32769 := hS30 3049
      have e38 : s30 3014 = (s9 3014) := (f31 3014 (by decide))
      have b39 : 0 ≤ (s30 3014) ∧ (s30 3014) ≤ 32768 := hS30 3014
      have e40 : s30 3061 = (s9 3061) := (f31 3061 (by decide))
      have b41 : 0 ≤ (s30 3061) ∧ (s30 3061) ≤ 3 := hS30 3061
      have e42 : s30 3060 = (s9 3060) := (f31 3060 (by decide))
      have b43 : 0 ≤ (s30 3060) ∧ (s30 3060) ≤ 255 := hS30 3060
      have e44 : s30 3057 = (s9 3057) := (f31 3057 (by decide))
      have b45 : 0 ≤ (s30 3057) ∧ (s30 3057) ≤ 65535 := hS30 3057
      have e46 : s30 3058 = (s9 3058) := (f31 3058 (by decide))
      have b47 : 0 ≤ (s30 3058) ∧ (s30 3058) ≤ 65535 := hS30 3058
      have hx48 : tpl A (s30 3014) (c 34) := by rw [f31 3014 (by decide)]; exact hx27
      by_cases hf3 : s30 3050 = 0
      · skip
        have hb3 := k32 hf3
        rw [show s9 3049 = aa + 3 by omega] at hb3
        rw [show s9 3061 = s 3061 by omega] at hb3
        refine tt_k 2 (S' := (29, [some (.inr (.inl 30)), none, none], [.inl (s30 3050)], n, D, s30, p, c)) rfl ?_
        refine tz_ne (x := (s30 3050)) rfl rfl (by omega) (fun h49 => ?_) (fun h49 => ?_)
        · exfalso; omega
        · show tt Zi d 196 (32, [some (.inr (.inl 30)), none, none], [], n, D, s30, p, c) _
          refine tt_k 2 (S' := (34, [some (.inr (.inl 30)), none, none], [.inl 0, .inr (.inl 30)], n, D, s30, p, c)) rfl ?_
          refine tt_cl (by omega) rfl (v_want (Zi := Zi) (D := D) (s := s30) (p := p) (c := c) (by omega) hS30 hC A 0 (by omega) hx48) ?_
          rintro _ _ ⟨s50, rfl, rfl, hS50, f51, k52, k53, k54, k55⟩
          show tt Zi d 196 (37, [some (.inr (.inl 30)), none, none], [], n, D, s50, p, c) _
          replace k52 : (s50 3050) = 0 → ((s30 3049) < A.2 ∧ gB A ((s30 3049)) = 0) ∧ (s50 3049) = (s30 3049) + 1 ∧ (s50 3049) ≤ (s30 3014) := k52
          replace k53 : (s30 3050) = 0 → (s50 3050) ≠ 0 → A.2 ≤ (s30 3049) ∨ gB A ((s30 3049)) ≠ 0 := k53
          replace k54 : (s30 3050) ≠ 0 → (s50 3050) ≠ 0 := k54
          replace k55 : (s30 3049) ≤ (s50 3049) := k55
          have b56 : 0 ≤ (s50 3050) ∧ (s50 3050) ≤ 8 := hS50 3050
          have b57 : 0 ≤ (s50 3049) ∧ (s50 3049) ≤ 32769 := hS50 3049
          have e58 : s50 3014 = (s30 3014) := (f51 3014 (by decide))
          have b59 : 0 ≤ (s50 3014) ∧ (s50 3014) ≤ 32768 := hS50 3014
          have e60 : s50 3061 = (s30 3061) := (f51 3061 (by decide))
          have b61 : 0 ≤ (s50 3061) ∧ (s50 3061) ≤ 3 := hS50 3061
          have e62 : s50 3060 = (s30 3060) := (f51 3060 (by decide))
          have b63 : 0 ≤ (s50 3060) ∧ (s50 3060) ≤ 255 := hS50 3060
          have e64 : s50 3057 = (s30 3057) := (f51 3057 (by decide))
          have b65 : 0 ≤ (s50 3057) ∧ (s50 3057) ≤ 65535 := hS50 3057
          have e66 : s50 3058 = (s30 3058) := (f51 3058 (by decide))
          have b67 : 0 ≤ (s50 3058) ∧ (s50 3058) ≤ 65535 := hS50 3058
          have hx68 : tpl A (s50 3014) (c 34) := by rw [f51 3014 (by decide)]; exact hx48
          by_cases hf4 : s50 3050 = 0
          · skip
            have hb4 := k52 hf4
            rw [show s30 3049 = aa + 4 by omega] at hb4
            refine tt_k 5 (S' := (46, [some (.inr (.inl 30)), some (.inl (s50 3049)), none], [.inl (s50 3050)], n, D, s50, p, c)) rfl ?_
            refine tz_ne (x := (s50 3050)) rfl rfl (by omega) (fun h69 => ?_) (fun h69 => ?_)
            · exfalso; omega
            · show tt Zi d 196 (49, [some (.inr (.inl 30)), some (.inl (s50 3049)), none], [], n, D, s50, p, c) _
              refine tt_k 1 (S' := (50, [some (.inr (.inl 30)), some (.inl (s50 3049)), none], [.inr (.inl 30)], n, D, s50, p, c)) rfl ?_
              refine tt_cl (by omega) rfl (v_nextByte (Zi := Zi) (D := D) (s := s50) (p := p) (c := c) (by omega) hS50 hC A hx68) ?_
              rintro _ _ ⟨s70, r71, rfl, rfl, hS70, f72, b73, k74, k75, k76, k77⟩
              show tt Zi d 196 (53, [some (.inr (.inl 30)), some (.inl (s50 3049)), none], [.inl r71], n, D, s70, p, c) _
              replace k74 : (s70 3050) = 0 → ((s50 3049) < A.2 ∧ gB A ((s50 3049)) = r71) ∧ (s70 3049) = (s50 3049) + 1 ∧ (s70 3049) ≤ (s50 3014) := k74
              replace k75 : (s50 3050) = 0 → (s70 3050) ≠ 0 → A.2 ≤ (s50 3049) := k75
              replace k76 : (s50 3050) ≠ 0 → (s70 3050) ≠ 0 := k76
              replace k77 : (s50 3049) ≤ (s70 3049) := k77
              have b78 : 0 ≤ (s70 3050) ∧ (s70 3050) ≤ 8 := hS70 3050
              have b79 : 0 ≤ (s70 3049) ∧ (s70 3049) ≤ 32769 := hS70 3049
              have e80 : s70 3014 = (s50 3014) := (f72 3014 (by decide))
              have b81 : 0 ≤ (s70 3014) ∧ (s70 3014) ≤ 32768 := hS70 3014
              have e82 : s70 3061 = (s50 3061) := (f72 3061 (by decide))
              have b83 : 0 ≤ (s70 3061) ∧ (s70 3061) ≤ 3 := hS70 3061
              have e84 : s70 3060 = (s50 3060) := (f72 3060 (by decide))
              have b85 : 0 ≤ (s70 3060) ∧ (s70 3060) ≤ 255 := hS70 3060
              have e86 : s70 3057 = (s50 3057) := (f72 3057 (by decide))
              have b87 : 0 ≤ (s70 3057) ∧ (s70 3057) ≤ 65535 := hS70 3057
              have e88 : s70 3058 = (s50 3058) := (f72 3058 (by decide))
              have b89 : 0 ≤ (s70 3058) ∧ (s70 3058) ≤ 65535 := hS70 3058
              have hx90 : tpl A (s70 3014) (c 34) := by rw [f72 3014 (by decide)]; exact hx68
              by_cases hf5 : s70 3050 = 0
              · skip
                have hb5 := k74 hf5
                rw [show s50 3049 = aa + 5 by omega] at hb5
                refine tt_k 4 (S' := (62, [some (.inr (.inl 30)), some (.inl (s50 3049)), some (.inl r71)], [.inl (s70 3050)], n, D, s70, p, c)) rfl ?_
                refine tz_ne (x := (s70 3050)) rfl rfl (by omega) (fun h91 => ?_) (fun h91 => ?_)
                · exfalso; omega
                · show tt Zi d 196 (65, [some (.inr (.inl 30)), some (.inl (s50 3049)), some (.inl r71)], [], n, D, s70, p, c) _
                  refine tt_k 2 (S' := (67, [some (.inr (.inl 30)), some (.inl (s50 3049)), some (.inl r71)], [.inl 0, .inr (.inl 30)], n, D, s70, p, c)) rfl ?_
                  refine tt_cl (by omega) rfl (v_want (Zi := Zi) (D := D) (s := s70) (p := p) (c := c) (by omega) hS70 hC A 0 (by omega) hx90) ?_
                  rintro _ _ ⟨s92, rfl, rfl, hS92, f93, k94, k95, k96, k97⟩
                  show tt Zi d 196 (70, [some (.inr (.inl 30)), some (.inl (s50 3049)), some (.inl r71)], [], n, D, s92, p, c) _
                  replace k94 : (s92 3050) = 0 → ((s70 3049) < A.2 ∧ gB A ((s70 3049)) = 0) ∧ (s92 3049) = (s70 3049) + 1 ∧ (s92 3049) ≤ (s70 3014) := k94
                  replace k95 : (s70 3050) = 0 → (s92 3050) ≠ 0 → A.2 ≤ (s70 3049) ∨ gB A ((s70 3049)) ≠ 0 := k95
                  replace k96 : (s70 3050) ≠ 0 → (s92 3050) ≠ 0 := k96
                  replace k97 : (s70 3049) ≤ (s92 3049) := k97
                  have b98 : 0 ≤ (s92 3050) ∧ (s92 3050) ≤ 8 := hS92 3050
                  have b99 : 0 ≤ (s92 3049) ∧ (s92 3049) ≤ 32769 := hS92 3049
                  have e100 : s92 3014 = (s70 3014) := (f93 3014 (by decide))
                  have b101 : 0 ≤ (s92 3014) ∧ (s92 3014) ≤ 32768 := hS92 3014
                  have e102 : s92 3061 = (s70 3061) := (f93 3061 (by decide))
                  have b103 : 0 ≤ (s92 3061) ∧ (s92 3061) ≤ 3 := hS92 3061
                  have e104 : s92 3060 = (s70 3060) := (f93 3060 (by decide))
                  have b105 : 0 ≤ (s92 3060) ∧ (s92 3060) ≤ 255 := hS92 3060
                  have e106 : s92 3057 = (s70 3057) := (f93 3057 (by decide))
                  have b107 : 0 ≤ (s92 3057) ∧ (s92 3057) ≤ 65535 := hS92 3057
                  have e108 : s92 3058 = (s70 3058) := (f93 3058 (by decide))
                  have b109 : 0 ≤ (s92 3058) ∧ (s92 3058) ≤ 65535 := hS92 3058
                  have hx110 : tpl A (s92 3014) (c 34) := by rw [f93 3014 (by decide)]; exact hx90
                  by_cases hf6 : s92 3050 = 0
                  · skip
                    have hb6 := k94 hf6
                    rw [show s70 3049 = aa + 6 by omega] at hb6
                    refine tt_k 2 (S' := (74, [some (.inr (.inl 30)), some (.inl (s50 3049)), some (.inl r71)], [.inl (s92 3050)], n, D, s92, p, c)) rfl ?_
                    refine tz_ne (x := (s92 3050)) rfl rfl (by omega) (fun h111 => ?_) (fun h111 => ?_)
                    · exfalso; omega
                    · show tt Zi d 196 (77, [some (.inr (.inl 30)), some (.inl (s50 3049)), some (.inl r71)], [], n, D, s92, p, c) _
                      refine tt_k 2 (S' := (79, [some (.inr (.inl 30)), some (.inl (s50 3049)), some (.inl r71)], [.inl 0, .inr (.inl 30)], n, D, s92, p, c)) rfl ?_
                      refine tt_cl (by omega) rfl (v_want (Zi := Zi) (D := D) (s := s92) (p := p) (c := c) (by omega) hS92 hC A 0 (by omega) hx110) ?_
                      rintro _ _ ⟨s112, rfl, rfl, hS112, f113, k114, k115, k116, k117⟩
                      show tt Zi d 196 (82, [some (.inr (.inl 30)), some (.inl (s50 3049)), some (.inl r71)], [], n, D, s112, p, c) _
                      replace k114 : (s112 3050) = 0 → ((s92 3049) < A.2 ∧ gB A ((s92 3049)) = 0) ∧ (s112 3049) = (s92 3049) + 1 ∧ (s112 3049) ≤ (s92 3014) := k114
                      replace k115 : (s92 3050) = 0 → (s112 3050) ≠ 0 → A.2 ≤ (s92 3049) ∨ gB A ((s92 3049)) ≠ 0 := k115
                      replace k116 : (s92 3050) ≠ 0 → (s112 3050) ≠ 0 := k116
                      replace k117 : (s92 3049) ≤ (s112 3049) := k117
                      have b118 : 0 ≤ (s112 3050) ∧ (s112 3050) ≤ 8 := hS112 3050
                      have b119 : 0 ≤ (s112 3049) ∧ (s112 3049) ≤ 32769 := hS112 3049
                      have e120 : s112 3014 = (s92 3014) := (f113 3014 (by decide))
                      have b121 : 0 ≤ (s112 3014) ∧ (s112 3014) ≤ 32768 := hS112 3014
                      have e122 : s112 3061 = (s92 3061) := (f113 3061 (by decide))
                      have b123 : 0 ≤ (s112 3061) ∧ (s112 3061) ≤ 3 := hS112 3061
                      have e124 : s112 3060 = (s92 3060) := (f113 3060 (by decide))
                      have b125 : 0 ≤ (s112 3060) ∧ (s112 3060) ≤ 255 := hS112 3060
                      have e126 : s112 3057 = (s92 3057) := (f113 3057 (by decide))
                      have b127 : 0 ≤ (s112 3057) ∧ (s112 3057) ≤ 65535 := hS112 3057
                      have e128 : s112 3058 = (s92 3058) := (f113 3058 (by decide))
                      have b129 : 0 ≤ (s112 3058) ∧ (s112 3058) ≤ 65535 := hS112 3058
                      have hx130 : tpl A (s112 3014) (c 34) := by rw [f113 3014 (by decide)]; exact hx110
                      by_cases hf7 : s112 3050 = 0
                      · skip
                        have hb7 := k114 hf7
                        rw [show s92 3049 = aa + 7 by omega] at hb7
                        refine tt_k 2 (S' := (86, [some (.inr (.inl 30)), some (.inl (s50 3049)), some (.inl r71)], [.inl (s112 3050)], n, D, s112, p, c)) rfl ?_
                        refine tz_ne (x := (s112 3050)) rfl rfl (by omega) (fun h131 => ?_) (fun h131 => ?_)
                        · exfalso; omega
                        · show tt Zi d 196 (89, [some (.inr (.inl 30)), some (.inl (s50 3049)), some (.inl r71)], [], n, D, s112, p, c) _
                          refine tt_k 6 (S' := (99, [some (.inr (.inl 30)), some (.inl (s50 3049)), some (.inl r71)], [.inl r71, .inl (s112 3060), .inr (.inl 46), .inr (.inl 30)], n, D, s112, p, c)) rfl ?_
                          refine tt_cl (by omega) rfl (x_measR (Zi := Zi) (D := D) (s := s112) (p := p) (c := c) (by omega) hS112 hC (s112 3060) r71 (by omega) (by omega)) ?_
                          rintro _ _ ⟨s132, r133, rfl, rfl, hS132, f134, b135, k136⟩
                          show tt Zi d 196 (102, [some (.inr (.inl 30)), some (.inl (s50 3049)), some (.inl r71)], [.inl r133], n, D, s132, p, c) _
                          replace k136 : (r133 = 1 ∧ VM ((c 46) 0) ((c 46) 1) ((c 46) 2) ((c 46) 3) ((c 46) 4) (s112 3060) r71 ∧ zq (ZM ((c 46) 0) ((c 46) 1) ((c 46) 2) ((c 46) 3) ((c 46) 4) (s112 3060) r71) ((s132 3017)) ((s132 3018)) ((s132 3019)) ((s132 3020)) ((s132 3021)) ((s132 3022)) ((s132 3023)) ((s132 3024)) ((s132 3025)) ((s132 3026))) ∨ (r133 = 0 ∧ ¬ VM ((c 46) 0) ((c 46) 1) ((c 46) 2) ((c 46) 3) ((c 46) 4) (s112 3060) r71) := k136
                          have b137 : 0 ≤ (s132 3017) ∧ (s132 3017) ≤ 65535 := hS132 3017
                          have b138 : -2147483648 ≤ (s132 3018) ∧ (s132 3018) ≤ 2147483647 := hS132 3018
                          have b139 : -2147483648 ≤ (s132 3019) ∧ (s132 3019) ≤ 2147483647 := hS132 3019
                          have b140 : -2147483648 ≤ (s132 3020) ∧ (s132 3020) ≤ 2147483647 := hS132 3020
                          have b141 : -2147483648 ≤ (s132 3021) ∧ (s132 3021) ≤ 2147483647 := hS132 3021
                          have b142 : 0 ≤ (s132 3022) ∧ (s132 3022) ≤ 65535 := hS132 3022
                          have b143 : -2147483648 ≤ (s132 3023) ∧ (s132 3023) ≤ 2147483647 := hS132 3023
                          have b144 : -2147483648 ≤ (s132 3024) ∧ (s132 3024) ≤ 2147483647 := hS132 3024
                          have b145 : 0 ≤ (s132 3025) ∧ (s132 3025) ≤ 31 := hS132 3025
                          have b146 : 0 ≤ (s132 3026) ∧ (s132 3026) ≤ 96 := hS132 3026
                          have e147 : s132 3049 = (s112 3049) := (f134 3049 (by decide))
                          have b148 : 0 ≤ (s132 3049) ∧ (s132 3049) ≤ 32769 := hS132 3049
                          have e149 : s132 3014 = (s112 3014) := (f134 3014 (by decide))
                          have b150 : 0 ≤ (s132 3014) ∧ (s132 3014) ≤ 32768 := hS132 3014
                          have e151 : s132 3061 = (s112 3061) := (f134 3061 (by decide))
                          have b152 : 0 ≤ (s132 3061) ∧ (s132 3061) ≤ 3 := hS132 3061
                          have e153 : s132 3060 = (s112 3060) := (f134 3060 (by decide))
                          have b154 : 0 ≤ (s132 3060) ∧ (s132 3060) ≤ 255 := hS132 3060
                          have e155 : s132 3057 = (s112 3057) := (f134 3057 (by decide))
                          have b156 : 0 ≤ (s132 3057) ∧ (s132 3057) ≤ 65535 := hS132 3057
                          have e157 : s132 3058 = (s112 3058) := (f134 3058 (by decide))
                          have b158 : 0 ≤ (s132 3058) ∧ (s132 3058) ≤ 65535 := hS132 3058
                          have e159 : s132 3050 = (s112 3050) := (f134 3050 (by decide))
                          have b160 : 0 ≤ (s132 3050) ∧ (s132 3050) ≤ 8 := hS132 3050
                          have hx161 : tpl A (s132 3014) (c 34) := by rw [f134 3014 (by decide)]; exact hx130
                          have hms := k136
                          rw [show (s112 3060) = s 3060 by omega, ← hb5.1.2] at hms
                          refine tz_ne (x := r133) rfl rfl (by omega) (fun h162 => ?_) (fun h162 => ?_)
                          · show tt Zi d 196 (112, [some (.inr (.inl 30)), some (.inl (s50 3049)), some (.inl r71)], [], n, D, s132, p, c) _
                            refine tt_k 2 (S' := (116, [some (.inr (.inl 30)), some (.inl (s50 3049)), some (.inl r71)], [.inl (s132 3050)], n, D, s132, p, c)) rfl ?_
                            refine tz_le (x := (s132 3050)) rfl rfl (by omega) (fun h163 => ?_) (fun h163 => ?_)
                            · show tt Zi d 196 (120, [some (.inr (.inl 30)), some (.inl (s50 3049)), some (.inl r71)], [], n, D, s132, p, c) _
                              obtain ⟨_, hvm, hzq⟩ := hms.resolve_right (fun q => by omega)
                              have hmZ : mv (ZM (c 46 0) (c 46 1) (c 46 2) (c 46 3) (c 46 4) (s 3060) (gB A (aa + 5))) := VM_mv (hC 46 0) (by omega) hvm
                              have hmv : mv s132 := by have hm := hmZ; obtain ⟨z0, z1, z2, z3, z4, z5, z6, z7, z8, z9⟩ := hzq; unfold mv at hm ⊢; rw [z0, z1, z2, z3, z4, z5, z6, z7, z8, z9]; exact hm
                              refine tt_k 14 (S' := (146, [some (.inr (.inl 30)), some (.inl (s50 3049)), some (.inl r71)], [.inr (.inl 30), .inl 4096, .inr (.inl 30)], n, D, (us (us (us s132 3036 0) 3037 (s132 3057)) 3038 (s132 3058)), p, c)) rfl ?_
                              refine tt_k 10 (S' := (164, [some (.inr (.inl 30)), some (.inl (s50 3049)), some (.inl r71)], [.inr (.inl 30)], n, D, (us (us (us (us (us (us s132 3036 0) 3037 (s132 3057)) 3038 (s132 3058)) 3039 (4096 * (s132 3061))) 3054 0) 3052 0), p, c)) rfl ?_
                              refine tt_cl (by omega) rfl (v_plane (Zi := Zi) (D := D) (s := (us (us (us (us (us (us s132 3036 0) 3037 (s132 3057)) 3038 (s132 3058)) 3039 (4096 * (s132 3061))) 3054 0) 3052 0)) (p := p) (c := c) (by omega) (bS_us (bS_us (bS_us (bS_us (bS_us (bS_us hS132 (show 0 ≤ 0 ∧ 0 ≤ 1 by omega)) (show 0 ≤ (s132 3057) ∧ (s132 3057) ≤ 64 by omega)) (show 0 ≤ (s132 3058) ∧ (s132 3058) ≤ 64 by omega)) (show 0 ≤ (4096 * (s132 3061)) ∧ (4096 * (s132 3061)) ≤ 8192 by omega)) (show 0 ≤ 0 ∧ 0 ≤ 8 by omega)) (show 0 ≤ 0 ∧ 0 ≤ 255 by omega)) hC (ZM (c 46 0) (c 46 1) (c 46 2) (c 46 3) (c 46 4) (s 3060) (gB A (aa + 5))) A (mv_us (by decide) (mv_us (by decide) (mv_us (by decide) (mv_us (by decide) (mv_us (by decide) (mv_us (by decide) hmv)))))) (show 0 = 0 ∧ (s132 3050) = 0 ∧ 1 ≤ (s132 3057) by omega) hzq hmZ hx161 (show (0 ≤ 0 ∧ 0 ≤ 8) ∧ (0 ≤ 0 ∧ 0 ≤ 255) by omega) (show (s132 3049) ≤ (s132 3014) by omega)) ?_
                              rintro _ _ ⟨s164, c165, rfl, rfl, hS164, hC165, f166, g167, k168, k169, k170, k171, k172, k173⟩
                              have hc174 : mv s164 := mv_fr f166 (by decide) (mv_us (by decide) (mv_us (by decide) (mv_us (by decide) (mv_us (by decide) (mv_us (by decide) (mv_us (by decide) hmv))))))
                              show tt Zi d 196 (167, [some (.inr (.inl 30)), some (.inl (s50 3049)), some (.inl r71)], [], n, D, s164, p, c165) _
                              replace k168 : (s164 3050) = 0 → ∃ X, (plQ A (ZM (c 46 0) (c 46 1) (c 46 2) (c 46 3) (c 46 4) (s 3060) (gB A (aa + 5))) ((s132 3057)) ((s132 3058)) 5000 0 0 (((s132 3049), 0, 0), mB ((ZM (c 46 0) (c 46 1) (c 46 2) (c 46 3) (c 46 4) (s 3060) (gB A (aa + 5))) 3024), 0, fun _ => 0)) = some X ∧ ((s164 3049), (s164 3052), (s164 3054)) = X.1 ∧ mrl X.2.1 ((c165 40)) ((c165 41)) ((c165 42)) ((c165 43)) ∧ trl X.2.2.2 ((4096 * (s132 3061))) ((s132 3057)) 0 ((s132 3058)) ((c165 44)) := k168
                              replace k169 : (s164 3050) ≠ 0 → (plQ A (ZM (c 46 0) (c 46 1) (c 46 2) (c 46 3) (c 46 4) (s 3060) (gB A (aa + 5))) ((s132 3057)) ((s132 3058)) 5000 0 0 (((s132 3049), 0, 0), mB ((ZM (c 46 0) (c 46 1) (c 46 2) (c 46 3) (c 46 4) (s 3060) (gB A (aa + 5))) 3024), 0, fun _ => 0)) = none := k169
                              replace k170 : (s164 3050) ≠ 0 → (c165 40) = (c 40) ∧ (c165 41) = (c 41) ∧ (c165 42) = (c 42) ∧ (c165 43) = (c 43) := k170
                              replace k171 : (s164 3050) = 0 → (0 ≤ (s164 3054) ∧ (s164 3054) ≤ 8) ∧ (0 ≤ (s164 3052) ∧ (s164 3052) ≤ 255) := k171
                              replace k172 : (s164 3050) = 0 → (s164 3049) ≤ (s132 3014) := k172
                              replace k173 : (s164 3050) = 0 → ofr ((4096 * (s132 3061))) ((c 44)) ((c165 44)) := k173
                              have b175 : 0 ≤ (s164 3050) ∧ (s164 3050) ≤ 8 := hS164 3050
                              have b176 : 0 ≤ (s164 3049) ∧ (s164 3049) ≤ 32769 := hS164 3049
                              have b177 : 0 ≤ (s164 3052) ∧ (s164 3052) ≤ 255 := hS164 3052
                              have b178 : 0 ≤ (s164 3054) ∧ (s164 3054) ≤ 8 := hS164 3054
                              have e179 : s164 3014 = (s132 3014) := (f166 3014 (by decide))
                              have b180 : 0 ≤ (s164 3014) ∧ (s164 3014) ≤ 32768 := hS164 3014
                              have e181 : s164 3061 = (s132 3061) := (f166 3061 (by decide))
                              have b182 : 0 ≤ (s164 3061) ∧ (s164 3061) ≤ 3 := hS164 3061
                              have e183 : s164 3060 = (s132 3060) := (f166 3060 (by decide))
                              have b184 : 0 ≤ (s164 3060) ∧ (s164 3060) ≤ 255 := hS164 3060
                              have e185 : s164 3057 = (s132 3057) := (f166 3057 (by decide))
                              have b186 : 0 ≤ (s164 3057) ∧ (s164 3057) ≤ 65535 := hS164 3057
                              have e187 : s164 3058 = (s132 3058) := (f166 3058 (by decide))
                              have b188 : 0 ≤ (s164 3058) ∧ (s164 3058) ≤ 65535 := hS164 3058
                              have hx189 : tpl A (s164 3014) (c165 34) := by rw [f166 3014 (by decide), g167 34 (by decide)]; exact hx161
                              have hx190 : zq (ZM (c 46 0) (c 46 1) (c 46 2) (c 46 3) (c 46 4) (s 3060) (gB A (aa + 5))) (s164 3017) (s164 3018) (s164 3019) (s164 3020) (s164 3021) (s164 3022) (s164 3023) (s164 3024) (s164 3025) (s164 3026) := by rw [f166 3017 (by decide), f166 3018 (by decide), f166 3019 (by decide), f166 3020 (by decide), f166 3021 (by decide), f166 3022 (by decide), f166 3023 (by decide), f166 3024 (by decide), f166 3025 (by decide), f166 3026 (by decide)]; exact hzq
                              by_cases hfP : s164 3050 = 0
                              · skip
                                obtain ⟨X, x1, x2, x3, x4⟩ := k168 hfP
                                clear k168 k169
                                have hX : plQ A (ZM (c 46 0) (c 46 1) (c 46 2) (c 46 3) (c 46 4) (s 3060) (gB A (aa + 5))) (s132 3057) (s132 3058) 5000 0 0 ((s132 3049, 0, 0), mB ((ZM (c 46 0) (c 46 1) (c 46 2) (c 46 3) (c 46 4) (s 3060) (gB A (aa + 5))) 3024), 0, fun _ => 0) = some X := x1
                                rw [show s132 3057 = s 3057 by omega, show s132 3058 = s 3058 by omega, show s132 3049 = aa + 8 by omega] at hX
                                have hXt : trl X.2.2.2 (4096 * s132 3061) (s132 3057) 0 (s132 3058) (c165 44) := x4
                                rw [show s132 3061 = s 3061 by omega, show s132 3057 = s 3057 by omega, show s132 3058 = s 3058 by omega] at hXt
                                have hXo : ofr (4096 * s132 3061) (c 44) (c165 44) := by have h := k173 hfP; exact h
                                rw [show s132 3061 = s 3061 by omega] at hXo
                                have hXd : X.1 = (s164 3049, s164 3052, s164 3054) := x2.symm
                                refine tt_k 2 (S' := (171, [some (.inr (.inl 30)), some (.inl (s50 3049)), some (.inl r71)], [.inl (s164 3050)], n, D, s164, p, c165)) rfl ?_
                                refine tz_ne (x := (s164 3050)) rfl rfl (by omega) (fun h191 => ?_) (fun h191 => ?_)
                                · exfalso; omega
                                · show tt Zi d 196 (174, [some (.inr (.inl 30)), some (.inl (s50 3049)), some (.inl r71)], [], n, D, s164, p, c165) _
                                  refine tt_k 4 (S' := (182, [some (.inr (.inl 30)), some (.inl (s50 3049)), some (.inl r71)], [.inl 255, .inl (s164 3052), .inr (.inl 30)], n, D, s164, p, c165)) rfl ?_
                                  refine tb_ne (x := (s164 3052)) (y := 255) rfl rfl (by omega) (fun h192 => ?_) (fun h192 => ?_)
                                  · show tt Zi d 196 (194, [some (.inr (.inl 30)), some (.inl (s50 3049)), some (.inl r71)], [.inr (.inl 30)], n, D, s164, p, c165) _
                                    refine tt_k 9 (S' := (211, [some (.inr (.inl 30)), some (.inl (s50 3049)), some (.inl r71)], [], n, D, (us (us s164 3049 (s164 3049)) 3061 ((s164 3061) + 1)), p, c165)) rfl ?_
                                    exact tt_rtv rfl rfl ⟨(us (us s164 3049 (s164 3049)) 3061 ((s164 3061) + 1)), c165, rfl, rfl, (bS_us (bS_us hS164 (show 0 ≤ (s164 3049) ∧ (s164 3049) ≤ 32769 by omega)) (show 0 ≤ ((s164 3061) + 1) ∧ ((s164 3061) + 1) ≤ 3 by omega)), hC165, (fr_us (by decide) (fr_us (by decide) (fr_tr (fr_us (by decide) (fr_us (by decide) (fr_us (by decide) (fr_us (by decide) (fr_us (by decide) (fr_us (by decide) (fr_tr (fr_tr (fr_tr (fr_tr (fr_tr (fr_tr (fr_tr fr_rf f10 (by decide)) f31 (by decide)) f51 (by decide)) f72 (by decide)) f93 (by decide)) f113 (by decide)) f134 (by decide)))))))) f166 (by decide)))), (frc_tr frc_rf g167 (by decide)), by show (s164 3050) = 0 → ∃ X, ((okS A aa (c 45 (s 3061).toNat)) ∧ VM (c 46 0) (c 46 1) (c 46 2) (c 46 3) (c 46 4) (s 3060) (gB A (aa + 5))) ∧ (plQ A (ZM (c 46 0) (c 46 1) (c 46 2) (c 46 3) (c 46 4) (s 3060) (gB A (aa + 5))) (s 3057) (s 3058) 5000 0 0 ((aa + 8, 0, 0), mB ((ZM (c 46 0) (c 46 1) (c 46 2) (c 46 3) (c 46 4) (s 3060) (gB A (aa + 5))) 3024), 0, fun _ => 0)) = some X ∧ (s164 3049) = (if X.1.2.1 = 255 then X.1.1 + 1 else X.1.1) ∧ mrl X.2.1 ((c165 40)) ((c165 41)) ((c165 42)) ((c165 43)) ∧ trl X.2.2.2 (4096 * s 3061) (s 3057) 0 (s 3058) ((c165 44)) ∧ ofr (4096 * s 3061) (c 44) ((c165 44)); intro hf; exact ⟨X, ⟨⟨by omega, by omega, by omega, by omega, by omega, by omega, by omega⟩, hvm⟩, hX, by rw [hXd]; show _ = if s164 3052 = 255 then s164 3049 + 1 else s164 3049; first | (rw [if_pos (by omega)]; done) | (rw [if_neg (by omega)]; done) | (rw [if_pos (by omega)]; omega) | (rw [if_neg (by omega)]; omega), x3, hXt, hXo⟩, by show (s164 3050) ≠ 0 → ¬ ((okS A aa (c 45 (s 3061).toNat)) ∧ VM (c 46 0) (c 46 1) (c 46 2) (c 46 3) (c 46 4) (s 3060) (gB A (aa + 5))) ∨ (plQ A (ZM (c 46 0) (c 46 1) (c 46 2) (c 46 3) (c 46 4) (s 3060) (gB A (aa + 5))) (s 3057) (s 3058) 5000 0 0 ((aa + 8, 0, 0), mB ((ZM (c 46 0) (c 46 1) (c 46 2) (c 46 3) (c 46 4) (s 3060) (gB A (aa + 5))) 3024), 0, fun _ => 0)) = none; intro hf; exact absurd hf (by omega), by show (s164 3050) ≠ 0 → (c165 40) = c 40 ∧ (c165 41) = c 41 ∧ (c165 42) = c 42 ∧ (c165 43) = c 43; intro hf; exact absurd hf (by omega), by show (s164 3050) = 0 → ((s164 3061) + 1) = s 3061 + 1; intro hf; omega, by show (s164 3050) = 0 → s 3049 ≤ (s164 3049); intro hf; have hmo := plQ_m _ _ _ _ _ hX; rw [hXd] at hmo; have hmo : aa + 8 ≤ s164 3049 := hmo; omega⟩
                                  · show tt Zi d 196 (185, [some (.inr (.inl 30)), some (.inl (s50 3049)), some (.inl r71)], [.inr (.inl 30)], n, D, s164, p, c165) _
                                    refine tt_k 12 (S' := (211, [some (.inr (.inl 30)), some (.inl (s50 3049)), some (.inl r71)], [], n, D, (us (us s164 3049 ((s164 3049) + 1)) 3061 ((s164 3061) + 1)), p, c165)) rfl ?_
                                    exact tt_rtv rfl rfl ⟨(us (us s164 3049 ((s164 3049) + 1)) 3061 ((s164 3061) + 1)), c165, rfl, rfl, (bS_us (bS_us hS164 (show 0 ≤ ((s164 3049) + 1) ∧ ((s164 3049) + 1) ≤ 32769 by omega)) (show 0 ≤ ((s164 3061) + 1) ∧ ((s164 3061) + 1) ≤ 3 by omega)), hC165, (fr_us (by decide) (fr_us (by decide) (fr_tr (fr_us (by decide) (fr_us (by decide) (fr_us (by decide) (fr_us (by decide) (fr_us (by decide) (fr_us (by decide) (fr_tr (fr_tr (fr_tr (fr_tr (fr_tr (fr_tr (fr_tr fr_rf f10 (by decide)) f31 (by decide)) f51 (by decide)) f72 (by decide)) f93 (by decide)) f113 (by decide)) f134 (by decide)))))))) f166 (by decide)))), (frc_tr frc_rf g167 (by decide)), by show (s164 3050) = 0 → ∃ X, ((okS A aa (c 45 (s 3061).toNat)) ∧ VM (c 46 0) (c 46 1) (c 46 2) (c 46 3) (c 46 4) (s 3060) (gB A (aa + 5))) ∧ (plQ A (ZM (c 46 0) (c 46 1) (c 46 2) (c 46 3) (c 46 4) (s 3060) (gB A (aa + 5))) (s 3057) (s 3058) 5000 0 0 ((aa + 8, 0, 0), mB ((ZM (c 46 0) (c 46 1) (c 46 2) (c 46 3) (c 46 4) (s 3060) (gB A (aa + 5))) 3024), 0, fun _ => 0)) = some X ∧ ((s164 3049) + 1) = (if X.1.2.1 = 255 then X.1.1 + 1 else X.1.1) ∧ mrl X.2.1 ((c165 40)) ((c165 41)) ((c165 42)) ((c165 43)) ∧ trl X.2.2.2 (4096 * s 3061) (s 3057) 0 (s 3058) ((c165 44)) ∧ ofr (4096 * s 3061) (c 44) ((c165 44)); intro hf; exact ⟨X, ⟨⟨by omega, by omega, by omega, by omega, by omega, by omega, by omega⟩, hvm⟩, hX, by rw [hXd]; show _ = if s164 3052 = 255 then s164 3049 + 1 else s164 3049; first | (rw [if_pos (by omega)]; done) | (rw [if_neg (by omega)]; done) | (rw [if_pos (by omega)]; omega) | (rw [if_neg (by omega)]; omega), x3, hXt, hXo⟩, by show (s164 3050) ≠ 0 → ¬ ((okS A aa (c 45 (s 3061).toNat)) ∧ VM (c 46 0) (c 46 1) (c 46 2) (c 46 3) (c 46 4) (s 3060) (gB A (aa + 5))) ∨ (plQ A (ZM (c 46 0) (c 46 1) (c 46 2) (c 46 3) (c 46 4) (s 3060) (gB A (aa + 5))) (s 3057) (s 3058) 5000 0 0 ((aa + 8, 0, 0), mB ((ZM (c 46 0) (c 46 1) (c 46 2) (c 46 3) (c 46 4) (s 3060) (gB A (aa + 5))) 3024), 0, fun _ => 0)) = none; intro hf; exact absurd hf (by omega), by show (s164 3050) ≠ 0 → (c165 40) = c 40 ∧ (c165 41) = c 41 ∧ (c165 42) = c 42 ∧ (c165 43) = c 43; intro hf; exact absurd hf (by omega), by show (s164 3050) = 0 → ((s164 3061) + 1) = s 3061 + 1; intro hf; omega, by show (s164 3050) = 0 → s 3049 ≤ ((s164 3049) + 1); intro hf; have hmo := plQ_m _ _ _ _ _ hX; rw [hXd] at hmo; have hmo : aa + 8 ≤ s164 3049 := hmo; omega⟩
                              · skip
                                have hnx : plQ A (ZM (c 46 0) (c 46 1) (c 46 2) (c 46 3) (c 46 4) (s 3060) (gB A (aa + 5))) (s132 3057) (s132 3058) 5000 0 0 ((s132 3049, 0, 0), mB ((ZM (c 46 0) (c 46 1) (c 46 2) (c 46 3) (c 46 4) (s 3060) (gB A (aa + 5))) 3024), 0, fun _ => 0) = none := k169 hfP
                                rw [show s132 3057 = s 3057 by omega, show s132 3058 = s 3058 by omega, show s132 3049 = aa + 8 by omega] at hnx
                                have hks := k170 hfP
                                clear k168 k169
                                refine tt_k 2 (S' := (171, [some (.inr (.inl 30)), some (.inl (s50 3049)), some (.inl r71)], [.inl (s164 3050)], n, D, s164, p, c165)) rfl ?_
                                refine tz_ne (x := (s164 3050)) rfl rfl (by omega) (fun h193 => ?_) (fun h193 => ?_)
                                · show tt Zi d 196 (211, [some (.inr (.inl 30)), some (.inl (s50 3049)), some (.inl r71)], [], n, D, s164, p, c165) _
                                  exact tt_rtv rfl rfl ⟨s164, c165, rfl, rfl, hS164, hC165, (fr_tr (fr_us (by decide) (fr_us (by decide) (fr_us (by decide) (fr_us (by decide) (fr_us (by decide) (fr_us (by decide) (fr_tr (fr_tr (fr_tr (fr_tr (fr_tr (fr_tr (fr_tr fr_rf f10 (by decide)) f31 (by decide)) f51 (by decide)) f72 (by decide)) f93 (by decide)) f113 (by decide)) f134 (by decide)))))))) f166 (by decide)), (frc_tr frc_rf g167 (by decide)), by show (s164 3050) = 0 → ∃ X, ((okS A aa (c 45 (s 3061).toNat)) ∧ VM (c 46 0) (c 46 1) (c 46 2) (c 46 3) (c 46 4) (s 3060) (gB A (aa + 5))) ∧ (plQ A (ZM (c 46 0) (c 46 1) (c 46 2) (c 46 3) (c 46 4) (s 3060) (gB A (aa + 5))) (s 3057) (s 3058) 5000 0 0 ((aa + 8, 0, 0), mB ((ZM (c 46 0) (c 46 1) (c 46 2) (c 46 3) (c 46 4) (s 3060) (gB A (aa + 5))) 3024), 0, fun _ => 0)) = some X ∧ (s164 3049) = (if X.1.2.1 = 255 then X.1.1 + 1 else X.1.1) ∧ mrl X.2.1 ((c165 40)) ((c165 41)) ((c165 42)) ((c165 43)) ∧ trl X.2.2.2 (4096 * s 3061) (s 3057) 0 (s 3058) ((c165 44)) ∧ ofr (4096 * s 3061) (c 44) ((c165 44)); intro hf; exact absurd hf (by omega), by show (s164 3050) ≠ 0 → ¬ ((okS A aa (c 45 (s 3061).toNat)) ∧ VM (c 46 0) (c 46 1) (c 46 2) (c 46 3) (c 46 4) (s 3060) (gB A (aa + 5))) ∨ (plQ A (ZM (c 46 0) (c 46 1) (c 46 2) (c 46 3) (c 46 4) (s 3060) (gB A (aa + 5))) (s 3057) (s 3058) 5000 0 0 ((aa + 8, 0, 0), mB ((ZM (c 46 0) (c 46 1) (c 46 2) (c 46 3) (c 46 4) (s 3060) (gB A (aa + 5))) 3024), 0, fun _ => 0)) = none; intro _; exact Or.inr hnx, by show (s164 3050) ≠ 0 → (c165 40) = c 40 ∧ (c165 41) = c 41 ∧ (c165 42) = c 42 ∧ (c165 43) = c 43; intro _; exact hks, by show (s164 3050) = 0 → (s164 3061) = s 3061 + 1; intro hf; exact absurd hf (by omega), by show (s164 3050) = 0 → s 3049 ≤ (s164 3049); intro hf; exact absurd hf (by omega)⟩
                                · exfalso; omega
                            · exfalso; omega
                          · show tt Zi d 196 (105, [some (.inr (.inl 30)), some (.inl (s50 3049)), some (.inl r71)], [], n, D, s132, p, c) _
                            refine tt_k 3 (S' := (109, [some (.inr (.inl 30)), some (.inl (s50 3049)), some (.inl r71)], [.inl (s50 3049), .inl 6, .inr (.inl 30)], n, D, s132, p, c)) rfl ?_
                            refine tt_cl (by omega) rfl (k_fail (Zi := Zi) (D := D) (s := s132) (p := p) (c := c) (by omega) hS132 hC 6 (s50 3049) (by omega) (by omega)) ?_
                            rintro _ _ ⟨s194, rfl, rfl, hS194, f195, k196, k197⟩
                            show tt Zi d 196 (112, [some (.inr (.inl 30)), some (.inl (s50 3049)), some (.inl r71)], [], n, D, s194, p, c) _
                            replace k196 : ((s132 3050) = 0 → (s194 3050) = 6 ∧ (s194 3051) = (s50 3049)) := k196
                            replace k197 : ((s132 3050) ≠ 0 → (s194 3050) = (s132 3050) ∧ (s194 3051) = (s132 3051)) := k197
                            have b198 : 0 ≤ (s194 3050) ∧ (s194 3050) ≤ 8 := hS194 3050
                            have b199 : -1 ≤ (s194 3051) ∧ (s194 3051) ≤ 32769 := hS194 3051
                            have b200 : -1 ≤ (s132 3051) ∧ (s132 3051) ≤ 32769 := hS132 3051
                            have e201 : s194 3049 = (s132 3049) := (f195 3049 (by decide))
                            have b202 : 0 ≤ (s194 3049) ∧ (s194 3049) ≤ 32769 := hS194 3049
                            have e203 : s194 3014 = (s132 3014) := (f195 3014 (by decide))
                            have b204 : 0 ≤ (s194 3014) ∧ (s194 3014) ≤ 32768 := hS194 3014
                            have e205 : s194 3061 = (s132 3061) := (f195 3061 (by decide))
                            have b206 : 0 ≤ (s194 3061) ∧ (s194 3061) ≤ 3 := hS194 3061
                            have e207 : s194 3060 = (s132 3060) := (f195 3060 (by decide))
                            have b208 : 0 ≤ (s194 3060) ∧ (s194 3060) ≤ 255 := hS194 3060
                            have e209 : s194 3057 = (s132 3057) := (f195 3057 (by decide))
                            have b210 : 0 ≤ (s194 3057) ∧ (s194 3057) ≤ 65535 := hS194 3057
                            have e211 : s194 3058 = (s132 3058) := (f195 3058 (by decide))
                            have b212 : 0 ≤ (s194 3058) ∧ (s194 3058) ≤ 65535 := hS194 3058
                            have hx213 : tpl A (s194 3014) (c 34) := by rw [f195 3014 (by decide)]; exact hx161
                            have hff : s194 3050 ≠ 0 := by have h := k196 (by omega); omega
                            have hno : ¬ ((okS A aa (c 45 (s 3061).toNat)) ∧ VM (c 46 0) (c 46 1) (c 46 2) (c 46 3) (c 46 4) (s 3060) (gB A (aa + 5))) := fun h => hms.elim (fun q => by omega) (fun q => q.2 h.2)
                            refine tt_k 2 (S' := (116, [some (.inr (.inl 30)), some (.inl (s50 3049)), some (.inl r71)], [.inl (s194 3050)], n, D, s194, p, c)) rfl ?_
                            refine tz_le (x := (s194 3050)) rfl rfl (by omega) (fun h214 => ?_) (fun h214 => ?_)
                            · exfalso; omega
                            · show tt Zi d 196 (119, [some (.inr (.inl 30)), some (.inl (s50 3049)), some (.inl r71)], [], n, D, s194, p, c) _
                              exact tt_rtv rfl rfl ⟨s194, c, rfl, rfl, hS194, hC, (fr_tr (fr_tr (fr_tr (fr_tr (fr_tr (fr_tr (fr_tr (fr_tr fr_rf f10 (by decide)) f31 (by decide)) f51 (by decide)) f72 (by decide)) f93 (by decide)) f113 (by decide)) f134 (by decide)) f195 (by decide)), frc_rf, by show (s194 3050) = 0 → ∃ X, ((okS A aa (c 45 (s 3061).toNat)) ∧ VM (c 46 0) (c 46 1) (c 46 2) (c 46 3) (c 46 4) (s 3060) (gB A (aa + 5))) ∧ (plQ A (ZM (c 46 0) (c 46 1) (c 46 2) (c 46 3) (c 46 4) (s 3060) (gB A (aa + 5))) (s 3057) (s 3058) 5000 0 0 ((aa + 8, 0, 0), mB ((ZM (c 46 0) (c 46 1) (c 46 2) (c 46 3) (c 46 4) (s 3060) (gB A (aa + 5))) 3024), 0, fun _ => 0)) = some X ∧ (s194 3049) = (if X.1.2.1 = 255 then X.1.1 + 1 else X.1.1) ∧ mrl X.2.1 ((c 40)) ((c 41)) ((c 42)) ((c 43)) ∧ trl X.2.2.2 (4096 * s 3061) (s 3057) 0 (s 3058) ((c 44)) ∧ ofr (4096 * s 3061) (c 44) ((c 44)); intro hf; exact absurd hf (by omega), by show (s194 3050) ≠ 0 → ¬ ((okS A aa (c 45 (s 3061).toNat)) ∧ VM (c 46 0) (c 46 1) (c 46 2) (c 46 3) (c 46 4) (s 3060) (gB A (aa + 5))) ∨ (plQ A (ZM (c 46 0) (c 46 1) (c 46 2) (c 46 3) (c 46 4) (s 3060) (gB A (aa + 5))) (s 3057) (s 3058) 5000 0 0 ((aa + 8, 0, 0), mB ((ZM (c 46 0) (c 46 1) (c 46 2) (c 46 3) (c 46 4) (s 3060) (gB A (aa + 5))) 3024), 0, fun _ => 0)) = none; intro _; exact Or.inl hno, by show (s194 3050) ≠ 0 → (c 40) = c 40 ∧ (c 41) = c 41 ∧ (c 42) = c 42 ∧ (c 43) = c 43; intro _; exact ⟨rfl, rfl, rfl, rfl⟩, by show (s194 3050) = 0 → (s194 3061) = s 3061 + 1; intro hf; exact absurd hf (by omega), by show (s194 3050) = 0 → s 3049 ≤ (s194 3049); intro hf; exact absurd hf (by omega)⟩
                      · skip
                        have hno : ¬ ((okS A aa (c 45 (s 3061).toNat)) ∧ VM (c 46 0) (c 46 1) (c 46 2) (c 46 3) (c 46 4) (s 3060) (gB A (aa + 5))) := by have h := k115 (by omega) hf7; rw [show s92 3049 = aa + 7 by omega] at h; rintro ⟨⟨h3, h4, h5, h6, h7, h8, h9⟩, _⟩; omega
                        refine tt_k 2 (S' := (86, [some (.inr (.inl 30)), some (.inl (s50 3049)), some (.inl r71)], [.inl (s112 3050)], n, D, s112, p, c)) rfl ?_
                        refine tz_ne (x := (s112 3050)) rfl rfl (by omega) (fun h215 => ?_) (fun h215 => ?_)
                        · show tt Zi d 196 (112, [some (.inr (.inl 30)), some (.inl (s50 3049)), some (.inl r71)], [], n, D, s112, p, c) _
                          refine tt_k 2 (S' := (116, [some (.inr (.inl 30)), some (.inl (s50 3049)), some (.inl r71)], [.inl (s112 3050)], n, D, s112, p, c)) rfl ?_
                          refine tz_le (x := (s112 3050)) rfl rfl (by omega) (fun h216 => ?_) (fun h216 => ?_)
                          · exfalso; omega
                          · show tt Zi d 196 (119, [some (.inr (.inl 30)), some (.inl (s50 3049)), some (.inl r71)], [], n, D, s112, p, c) _
                            exact tt_rtv rfl rfl ⟨s112, c, rfl, rfl, hS112, hC, (fr_tr (fr_tr (fr_tr (fr_tr (fr_tr (fr_tr fr_rf f10 (by decide)) f31 (by decide)) f51 (by decide)) f72 (by decide)) f93 (by decide)) f113 (by decide)), frc_rf, by show (s112 3050) = 0 → ∃ X, ((okS A aa (c 45 (s 3061).toNat)) ∧ VM (c 46 0) (c 46 1) (c 46 2) (c 46 3) (c 46 4) (s 3060) (gB A (aa + 5))) ∧ (plQ A (ZM (c 46 0) (c 46 1) (c 46 2) (c 46 3) (c 46 4) (s 3060) (gB A (aa + 5))) (s 3057) (s 3058) 5000 0 0 ((aa + 8, 0, 0), mB ((ZM (c 46 0) (c 46 1) (c 46 2) (c 46 3) (c 46 4) (s 3060) (gB A (aa + 5))) 3024), 0, fun _ => 0)) = some X ∧ (s112 3049) = (if X.1.2.1 = 255 then X.1.1 + 1 else X.1.1) ∧ mrl X.2.1 ((c 40)) ((c 41)) ((c 42)) ((c 43)) ∧ trl X.2.2.2 (4096 * s 3061) (s 3057) 0 (s 3058) ((c 44)) ∧ ofr (4096 * s 3061) (c 44) ((c 44)); intro hf; exact absurd hf (by omega), by show (s112 3050) ≠ 0 → ¬ ((okS A aa (c 45 (s 3061).toNat)) ∧ VM (c 46 0) (c 46 1) (c 46 2) (c 46 3) (c 46 4) (s 3060) (gB A (aa + 5))) ∨ (plQ A (ZM (c 46 0) (c 46 1) (c 46 2) (c 46 3) (c 46 4) (s 3060) (gB A (aa + 5))) (s 3057) (s 3058) 5000 0 0 ((aa + 8, 0, 0), mB ((ZM (c 46 0) (c 46 1) (c 46 2) (c 46 3) (c 46 4) (s 3060) (gB A (aa + 5))) 3024), 0, fun _ => 0)) = none; intro _; exact Or.inl hno, by show (s112 3050) ≠ 0 → (c 40) = c 40 ∧ (c 41) = c 41 ∧ (c 42) = c 42 ∧ (c 43) = c 43; intro _; exact ⟨rfl, rfl, rfl, rfl⟩, by show (s112 3050) = 0 → (s112 3061) = s 3061 + 1; intro hf; exact absurd hf (by omega), by show (s112 3050) = 0 → s 3049 ≤ (s112 3049); intro hf; exact absurd hf (by omega)⟩
                        · exfalso; omega
                  · skip
                    have hno : ¬ ((okS A aa (c 45 (s 3061).toNat)) ∧ VM (c 46 0) (c 46 1) (c 46 2) (c 46 3) (c 46 4) (s 3060) (gB A (aa + 5))) := by have h := k95 (by omega) hf6; rw [show s70 3049 = aa + 6 by omega] at h; rintro ⟨⟨h3, h4, h5, h6, h7, h8, h9⟩, _⟩; omega
                    refine tt_k 2 (S' := (74, [some (.inr (.inl 30)), some (.inl (s50 3049)), some (.inl r71)], [.inl (s92 3050)], n, D, s92, p, c)) rfl ?_
                    refine tz_ne (x := (s92 3050)) rfl rfl (by omega) (fun h217 => ?_) (fun h217 => ?_)
                    · show tt Zi d 196 (82, [some (.inr (.inl 30)), some (.inl (s50 3049)), some (.inl r71)], [], n, D, s92, p, c) _
                      refine tt_k 2 (S' := (86, [some (.inr (.inl 30)), some (.inl (s50 3049)), some (.inl r71)], [.inl (s92 3050)], n, D, s92, p, c)) rfl ?_
                      refine tz_ne (x := (s92 3050)) rfl rfl (by omega) (fun h218 => ?_) (fun h218 => ?_)
                      · show tt Zi d 196 (112, [some (.inr (.inl 30)), some (.inl (s50 3049)), some (.inl r71)], [], n, D, s92, p, c) _
                        refine tt_k 2 (S' := (116, [some (.inr (.inl 30)), some (.inl (s50 3049)), some (.inl r71)], [.inl (s92 3050)], n, D, s92, p, c)) rfl ?_
                        refine tz_le (x := (s92 3050)) rfl rfl (by omega) (fun h219 => ?_) (fun h219 => ?_)
                        · exfalso; omega
                        · show tt Zi d 196 (119, [some (.inr (.inl 30)), some (.inl (s50 3049)), some (.inl r71)], [], n, D, s92, p, c) _
                          exact tt_rtv rfl rfl ⟨s92, c, rfl, rfl, hS92, hC, (fr_tr (fr_tr (fr_tr (fr_tr (fr_tr fr_rf f10 (by decide)) f31 (by decide)) f51 (by decide)) f72 (by decide)) f93 (by decide)), frc_rf, by show (s92 3050) = 0 → ∃ X, ((okS A aa (c 45 (s 3061).toNat)) ∧ VM (c 46 0) (c 46 1) (c 46 2) (c 46 3) (c 46 4) (s 3060) (gB A (aa + 5))) ∧ (plQ A (ZM (c 46 0) (c 46 1) (c 46 2) (c 46 3) (c 46 4) (s 3060) (gB A (aa + 5))) (s 3057) (s 3058) 5000 0 0 ((aa + 8, 0, 0), mB ((ZM (c 46 0) (c 46 1) (c 46 2) (c 46 3) (c 46 4) (s 3060) (gB A (aa + 5))) 3024), 0, fun _ => 0)) = some X ∧ (s92 3049) = (if X.1.2.1 = 255 then X.1.1 + 1 else X.1.1) ∧ mrl X.2.1 ((c 40)) ((c 41)) ((c 42)) ((c 43)) ∧ trl X.2.2.2 (4096 * s 3061) (s 3057) 0 (s 3058) ((c 44)) ∧ ofr (4096 * s 3061) (c 44) ((c 44)); intro hf; exact absurd hf (by omega), by show (s92 3050) ≠ 0 → ¬ ((okS A aa (c 45 (s 3061).toNat)) ∧ VM (c 46 0) (c 46 1) (c 46 2) (c 46 3) (c 46 4) (s 3060) (gB A (aa + 5))) ∨ (plQ A (ZM (c 46 0) (c 46 1) (c 46 2) (c 46 3) (c 46 4) (s 3060) (gB A (aa + 5))) (s 3057) (s 3058) 5000 0 0 ((aa + 8, 0, 0), mB ((ZM (c 46 0) (c 46 1) (c 46 2) (c 46 3) (c 46 4) (s 3060) (gB A (aa + 5))) 3024), 0, fun _ => 0)) = none; intro _; exact Or.inl hno, by show (s92 3050) ≠ 0 → (c 40) = c 40 ∧ (c 41) = c 41 ∧ (c 42) = c 42 ∧ (c 43) = c 43; intro _; exact ⟨rfl, rfl, rfl, rfl⟩, by show (s92 3050) = 0 → (s92 3061) = s 3061 + 1; intro hf; exact absurd hf (by omega), by show (s92 3050) = 0 → s 3049 ≤ (s92 3049); intro hf; exact absurd hf (by omega)⟩
                      · exfalso; omega
                    · exfalso; omega
              · skip
                have hno : ¬ ((okS A aa (c 45 (s 3061).toNat)) ∧ VM (c 46 0) (c 46 1) (c 46 2) (c 46 3) (c 46 4) (s 3060) (gB A (aa + 5))) := by have h := k75 (by omega) hf5; rw [show s50 3049 = aa + 5 by omega] at h; rintro ⟨⟨h3, h4, h5, h6, h7, h8, h9⟩, _⟩; omega
                refine tt_k 4 (S' := (62, [some (.inr (.inl 30)), some (.inl (s50 3049)), some (.inl r71)], [.inl (s70 3050)], n, D, s70, p, c)) rfl ?_
                refine tz_ne (x := (s70 3050)) rfl rfl (by omega) (fun h220 => ?_) (fun h220 => ?_)
                · show tt Zi d 196 (70, [some (.inr (.inl 30)), some (.inl (s50 3049)), some (.inl r71)], [], n, D, s70, p, c) _
                  refine tt_k 2 (S' := (74, [some (.inr (.inl 30)), some (.inl (s50 3049)), some (.inl r71)], [.inl (s70 3050)], n, D, s70, p, c)) rfl ?_
                  refine tz_ne (x := (s70 3050)) rfl rfl (by omega) (fun h221 => ?_) (fun h221 => ?_)
                  · show tt Zi d 196 (82, [some (.inr (.inl 30)), some (.inl (s50 3049)), some (.inl r71)], [], n, D, s70, p, c) _
                    refine tt_k 2 (S' := (86, [some (.inr (.inl 30)), some (.inl (s50 3049)), some (.inl r71)], [.inl (s70 3050)], n, D, s70, p, c)) rfl ?_
                    refine tz_ne (x := (s70 3050)) rfl rfl (by omega) (fun h222 => ?_) (fun h222 => ?_)
                    · show tt Zi d 196 (112, [some (.inr (.inl 30)), some (.inl (s50 3049)), some (.inl r71)], [], n, D, s70, p, c) _
                      refine tt_k 2 (S' := (116, [some (.inr (.inl 30)), some (.inl (s50 3049)), some (.inl r71)], [.inl (s70 3050)], n, D, s70, p, c)) rfl ?_
                      refine tz_le (x := (s70 3050)) rfl rfl (by omega) (fun h223 => ?_) (fun h223 => ?_)
                      · exfalso; omega
                      · show tt Zi d 196 (119, [some (.inr (.inl 30)), some (.inl (s50 3049)), some (.inl r71)], [], n, D, s70, p, c) _
                        exact tt_rtv rfl rfl ⟨s70, c, rfl, rfl, hS70, hC, (fr_tr (fr_tr (fr_tr (fr_tr fr_rf f10 (by decide)) f31 (by decide)) f51 (by decide)) f72 (by decide)), frc_rf, by show (s70 3050) = 0 → ∃ X, ((okS A aa (c 45 (s 3061).toNat)) ∧ VM (c 46 0) (c 46 1) (c 46 2) (c 46 3) (c 46 4) (s 3060) (gB A (aa + 5))) ∧ (plQ A (ZM (c 46 0) (c 46 1) (c 46 2) (c 46 3) (c 46 4) (s 3060) (gB A (aa + 5))) (s 3057) (s 3058) 5000 0 0 ((aa + 8, 0, 0), mB ((ZM (c 46 0) (c 46 1) (c 46 2) (c 46 3) (c 46 4) (s 3060) (gB A (aa + 5))) 3024), 0, fun _ => 0)) = some X ∧ (s70 3049) = (if X.1.2.1 = 255 then X.1.1 + 1 else X.1.1) ∧ mrl X.2.1 ((c 40)) ((c 41)) ((c 42)) ((c 43)) ∧ trl X.2.2.2 (4096 * s 3061) (s 3057) 0 (s 3058) ((c 44)) ∧ ofr (4096 * s 3061) (c 44) ((c 44)); intro hf; exact absurd hf (by omega), by show (s70 3050) ≠ 0 → ¬ ((okS A aa (c 45 (s 3061).toNat)) ∧ VM (c 46 0) (c 46 1) (c 46 2) (c 46 3) (c 46 4) (s 3060) (gB A (aa + 5))) ∨ (plQ A (ZM (c 46 0) (c 46 1) (c 46 2) (c 46 3) (c 46 4) (s 3060) (gB A (aa + 5))) (s 3057) (s 3058) 5000 0 0 ((aa + 8, 0, 0), mB ((ZM (c 46 0) (c 46 1) (c 46 2) (c 46 3) (c 46 4) (s 3060) (gB A (aa + 5))) 3024), 0, fun _ => 0)) = none; intro _; exact Or.inl hno, by show (s70 3050) ≠ 0 → (c 40) = c 40 ∧ (c 41) = c 41 ∧ (c 42) = c 42 ∧ (c 43) = c 43; intro _; exact ⟨rfl, rfl, rfl, rfl⟩, by show (s70 3050) = 0 → (s70 3061) = s 3061 + 1; intro hf; exact absurd hf (by omega), by show (s70 3050) = 0 → s 3049 ≤ (s70 3049); intro hf; exact absurd hf (by omega)⟩
                    · exfalso; omega
                  · exfalso; omega
                · exfalso; omega
          · skip
            have hno : ¬ ((okS A aa (c 45 (s 3061).toNat)) ∧ VM (c 46 0) (c 46 1) (c 46 2) (c 46 3) (c 46 4) (s 3060) (gB A (aa + 5))) := by have h := k53 (by omega) hf4; rw [show s30 3049 = aa + 4 by omega] at h; rintro ⟨⟨h3, h4, h5, h6, h7, h8, h9⟩, _⟩; omega
            refine tt_k 5 (S' := (46, [some (.inr (.inl 30)), some (.inl (s50 3049)), none], [.inl (s50 3050)], n, D, s50, p, c)) rfl ?_
            refine tz_ne (x := (s50 3050)) rfl rfl (by omega) (fun h224 => ?_) (fun h224 => ?_)
            · show tt Zi d 196 (56, [some (.inr (.inl 30)), some (.inl (s50 3049)), none], [], n, D, s50, p, c) _
              refine tt_k 4 (S' := (62, [some (.inr (.inl 30)), some (.inl (s50 3049)), some (.inl 0)], [.inl (s50 3050)], n, D, s50, p, c)) rfl ?_
              refine tz_ne (x := (s50 3050)) rfl rfl (by omega) (fun h225 => ?_) (fun h225 => ?_)
              · show tt Zi d 196 (70, [some (.inr (.inl 30)), some (.inl (s50 3049)), some (.inl 0)], [], n, D, s50, p, c) _
                refine tt_k 2 (S' := (74, [some (.inr (.inl 30)), some (.inl (s50 3049)), some (.inl 0)], [.inl (s50 3050)], n, D, s50, p, c)) rfl ?_
                refine tz_ne (x := (s50 3050)) rfl rfl (by omega) (fun h226 => ?_) (fun h226 => ?_)
                · show tt Zi d 196 (82, [some (.inr (.inl 30)), some (.inl (s50 3049)), some (.inl 0)], [], n, D, s50, p, c) _
                  refine tt_k 2 (S' := (86, [some (.inr (.inl 30)), some (.inl (s50 3049)), some (.inl 0)], [.inl (s50 3050)], n, D, s50, p, c)) rfl ?_
                  refine tz_ne (x := (s50 3050)) rfl rfl (by omega) (fun h227 => ?_) (fun h227 => ?_)
                  · show tt Zi d 196 (112, [some (.inr (.inl 30)), some (.inl (s50 3049)), some (.inl 0)], [], n, D, s50, p, c) _
                    refine tt_k 2 (S' := (116, [some (.inr (.inl 30)), some (.inl (s50 3049)), some (.inl 0)], [.inl (s50 3050)], n, D, s50, p, c)) rfl ?_
                    refine tz_le (x := (s50 3050)) rfl rfl (by omega) (fun h228 => ?_) (fun h228 => ?_)
                    · exfalso; omega
                    · show tt Zi d 196 (119, [some (.inr (.inl 30)), some (.inl (s50 3049)), some (.inl 0)], [], n, D, s50, p, c) _
                      exact tt_rtv rfl rfl ⟨s50, c, rfl, rfl, hS50, hC, (fr_tr (fr_tr (fr_tr fr_rf f10 (by decide)) f31 (by decide)) f51 (by decide)), frc_rf, by show (s50 3050) = 0 → ∃ X, ((okS A aa (c 45 (s 3061).toNat)) ∧ VM (c 46 0) (c 46 1) (c 46 2) (c 46 3) (c 46 4) (s 3060) (gB A (aa + 5))) ∧ (plQ A (ZM (c 46 0) (c 46 1) (c 46 2) (c 46 3) (c 46 4) (s 3060) (gB A (aa + 5))) (s 3057) (s 3058) 5000 0 0 ((aa + 8, 0, 0), mB ((ZM (c 46 0) (c 46 1) (c 46 2) (c 46 3) (c 46 4) (s 3060) (gB A (aa + 5))) 3024), 0, fun _ => 0)) = some X ∧ (s50 3049) = (if X.1.2.1 = 255 then X.1.1 + 1 else X.1.1) ∧ mrl X.2.1 ((c 40)) ((c 41)) ((c 42)) ((c 43)) ∧ trl X.2.2.2 (4096 * s 3061) (s 3057) 0 (s 3058) ((c 44)) ∧ ofr (4096 * s 3061) (c 44) ((c 44)); intro hf; exact absurd hf (by omega), by show (s50 3050) ≠ 0 → ¬ ((okS A aa (c 45 (s 3061).toNat)) ∧ VM (c 46 0) (c 46 1) (c 46 2) (c 46 3) (c 46 4) (s 3060) (gB A (aa + 5))) ∨ (plQ A (ZM (c 46 0) (c 46 1) (c 46 2) (c 46 3) (c 46 4) (s 3060) (gB A (aa + 5))) (s 3057) (s 3058) 5000 0 0 ((aa + 8, 0, 0), mB ((ZM (c 46 0) (c 46 1) (c 46 2) (c 46 3) (c 46 4) (s 3060) (gB A (aa + 5))) 3024), 0, fun _ => 0)) = none; intro _; exact Or.inl hno, by show (s50 3050) ≠ 0 → (c 40) = c 40 ∧ (c 41) = c 41 ∧ (c 42) = c 42 ∧ (c 43) = c 43; intro _; exact ⟨rfl, rfl, rfl, rfl⟩, by show (s50 3050) = 0 → (s50 3061) = s 3061 + 1; intro hf; exact absurd hf (by omega), by show (s50 3050) = 0 → s 3049 ≤ (s50 3049); intro hf; exact absurd hf (by omega)⟩
                  · exfalso; omega
                · exfalso; omega
              · exfalso; omega
            · exfalso; omega
      · skip
        have hno : ¬ ((okS A aa (c 45 (s 3061).toNat)) ∧ VM (c 46 0) (c 46 1) (c 46 2) (c 46 3) (c 46 4) (s 3060) (gB A (aa + 5))) := by have h := k33 (by omega) hf3; rw [show s9 3049 = aa + 3 by omega, show s9 3061 = s 3061 by omega] at h; rintro ⟨⟨h3, h4, h5, h6, h7, h8, h9⟩, _⟩; omega
        refine tt_k 2 (S' := (29, [some (.inr (.inl 30)), none, none], [.inl (s30 3050)], n, D, s30, p, c)) rfl ?_
        refine tz_ne (x := (s30 3050)) rfl rfl (by omega) (fun h229 => ?_) (fun h229 => ?_)
        · show tt Zi d 196 (37, [some (.inr (.inl 30)), none, none], [], n, D, s30, p, c) _
          refine tt_k 5 (S' := (46, [some (.inr (.inl 30)), some (.inl (s30 3049)), none], [.inl (s30 3050)], n, D, s30, p, c)) rfl ?_
          refine tz_ne (x := (s30 3050)) rfl rfl (by omega) (fun h230 => ?_) (fun h230 => ?_)
          · show tt Zi d 196 (56, [some (.inr (.inl 30)), some (.inl (s30 3049)), none], [], n, D, s30, p, c) _
            refine tt_k 4 (S' := (62, [some (.inr (.inl 30)), some (.inl (s30 3049)), some (.inl 0)], [.inl (s30 3050)], n, D, s30, p, c)) rfl ?_
            refine tz_ne (x := (s30 3050)) rfl rfl (by omega) (fun h231 => ?_) (fun h231 => ?_)
            · show tt Zi d 196 (70, [some (.inr (.inl 30)), some (.inl (s30 3049)), some (.inl 0)], [], n, D, s30, p, c) _
              refine tt_k 2 (S' := (74, [some (.inr (.inl 30)), some (.inl (s30 3049)), some (.inl 0)], [.inl (s30 3050)], n, D, s30, p, c)) rfl ?_
              refine tz_ne (x := (s30 3050)) rfl rfl (by omega) (fun h232 => ?_) (fun h232 => ?_)
              · show tt Zi d 196 (82, [some (.inr (.inl 30)), some (.inl (s30 3049)), some (.inl 0)], [], n, D, s30, p, c) _
                refine tt_k 2 (S' := (86, [some (.inr (.inl 30)), some (.inl (s30 3049)), some (.inl 0)], [.inl (s30 3050)], n, D, s30, p, c)) rfl ?_
                refine tz_ne (x := (s30 3050)) rfl rfl (by omega) (fun h233 => ?_) (fun h233 => ?_)
                · show tt Zi d 196 (112, [some (.inr (.inl 30)), some (.inl (s30 3049)), some (.inl 0)], [], n, D, s30, p, c) _
                  refine tt_k 2 (S' := (116, [some (.inr (.inl 30)), some (.inl (s30 3049)), some (.inl 0)], [.inl (s30 3050)], n, D, s30, p, c)) rfl ?_
                  refine tz_le (x := (s30 3050)) rfl rfl (by omega) (fun h234 => ?_) (fun h234 => ?_)
                  · exfalso; omega
                  · show tt Zi d 196 (119, [some (.inr (.inl 30)), some (.inl (s30 3049)), some (.inl 0)], [], n, D, s30, p, c) _
                    exact tt_rtv rfl rfl ⟨s30, c, rfl, rfl, hS30, hC, (fr_tr (fr_tr fr_rf f10 (by decide)) f31 (by decide)), frc_rf, by show (s30 3050) = 0 → ∃ X, ((okS A aa (c 45 (s 3061).toNat)) ∧ VM (c 46 0) (c 46 1) (c 46 2) (c 46 3) (c 46 4) (s 3060) (gB A (aa + 5))) ∧ (plQ A (ZM (c 46 0) (c 46 1) (c 46 2) (c 46 3) (c 46 4) (s 3060) (gB A (aa + 5))) (s 3057) (s 3058) 5000 0 0 ((aa + 8, 0, 0), mB ((ZM (c 46 0) (c 46 1) (c 46 2) (c 46 3) (c 46 4) (s 3060) (gB A (aa + 5))) 3024), 0, fun _ => 0)) = some X ∧ (s30 3049) = (if X.1.2.1 = 255 then X.1.1 + 1 else X.1.1) ∧ mrl X.2.1 ((c 40)) ((c 41)) ((c 42)) ((c 43)) ∧ trl X.2.2.2 (4096 * s 3061) (s 3057) 0 (s 3058) ((c 44)) ∧ ofr (4096 * s 3061) (c 44) ((c 44)); intro hf; exact absurd hf (by omega), by show (s30 3050) ≠ 0 → ¬ ((okS A aa (c 45 (s 3061).toNat)) ∧ VM (c 46 0) (c 46 1) (c 46 2) (c 46 3) (c 46 4) (s 3060) (gB A (aa + 5))) ∨ (plQ A (ZM (c 46 0) (c 46 1) (c 46 2) (c 46 3) (c 46 4) (s 3060) (gB A (aa + 5))) (s 3057) (s 3058) 5000 0 0 ((aa + 8, 0, 0), mB ((ZM (c 46 0) (c 46 1) (c 46 2) (c 46 3) (c 46 4) (s 3060) (gB A (aa + 5))) 3024), 0, fun _ => 0)) = none; intro _; exact Or.inl hno, by show (s30 3050) ≠ 0 → (c 40) = c 40 ∧ (c 41) = c 41 ∧ (c 42) = c 42 ∧ (c 43) = c 43; intro _; exact ⟨rfl, rfl, rfl, rfl⟩, by show (s30 3050) = 0 → (s30 3061) = s 3061 + 1; intro hf; exact absurd hf (by omega), by show (s30 3050) = 0 → s 3049 ≤ (s30 3049); intro hf; exact absurd hf (by omega)⟩
                · exfalso; omega
              · exfalso; omega
            · exfalso; omega
          · exfalso; omega
        · exfalso; omega
  · skip
    have hno : ¬ ((okS A aa (c 45 (s 3061).toNat)) ∧ VM (c 46 0) (c 46 1) (c 46 2) (c 46 3) (c 46 4) (s 3060) (gB A (aa + 5))) := by have h := k12 (by omega) hf2; rw [show s 3049 = aa + 2 by omega] at h; rintro ⟨⟨h3, h4, h5, h6, h7, h8, h9⟩, _⟩; omega
    refine tt_k 2 (S' := (9, [some (.inr (.inl 30)), none, none], [.inl (s9 3050)], n, D, s9, p, c)) rfl ?_
    refine tz_ne (x := (s9 3050)) rfl rfl (by omega) (fun h235 => ?_) (fun h235 => ?_)
    · show tt Zi d 196 (25, [some (.inr (.inl 30)), none, none], [], n, D, s9, p, c) _
      refine tt_k 2 (S' := (29, [some (.inr (.inl 30)), none, none], [.inl (s9 3050)], n, D, s9, p, c)) rfl ?_
      refine tz_ne (x := (s9 3050)) rfl rfl (by omega) (fun h236 => ?_) (fun h236 => ?_)
      · show tt Zi d 196 (37, [some (.inr (.inl 30)), none, none], [], n, D, s9, p, c) _
        refine tt_k 5 (S' := (46, [some (.inr (.inl 30)), some (.inl (s9 3049)), none], [.inl (s9 3050)], n, D, s9, p, c)) rfl ?_
        refine tz_ne (x := (s9 3050)) rfl rfl (by omega) (fun h237 => ?_) (fun h237 => ?_)
        · show tt Zi d 196 (56, [some (.inr (.inl 30)), some (.inl (s9 3049)), none], [], n, D, s9, p, c) _
          refine tt_k 4 (S' := (62, [some (.inr (.inl 30)), some (.inl (s9 3049)), some (.inl 0)], [.inl (s9 3050)], n, D, s9, p, c)) rfl ?_
          refine tz_ne (x := (s9 3050)) rfl rfl (by omega) (fun h238 => ?_) (fun h238 => ?_)
          · show tt Zi d 196 (70, [some (.inr (.inl 30)), some (.inl (s9 3049)), some (.inl 0)], [], n, D, s9, p, c) _
            refine tt_k 2 (S' := (74, [some (.inr (.inl 30)), some (.inl (s9 3049)), some (.inl 0)], [.inl (s9 3050)], n, D, s9, p, c)) rfl ?_
            refine tz_ne (x := (s9 3050)) rfl rfl (by omega) (fun h239 => ?_) (fun h239 => ?_)
            · show tt Zi d 196 (82, [some (.inr (.inl 30)), some (.inl (s9 3049)), some (.inl 0)], [], n, D, s9, p, c) _
              refine tt_k 2 (S' := (86, [some (.inr (.inl 30)), some (.inl (s9 3049)), some (.inl 0)], [.inl (s9 3050)], n, D, s9, p, c)) rfl ?_
              refine tz_ne (x := (s9 3050)) rfl rfl (by omega) (fun h240 => ?_) (fun h240 => ?_)
              · show tt Zi d 196 (112, [some (.inr (.inl 30)), some (.inl (s9 3049)), some (.inl 0)], [], n, D, s9, p, c) _
                refine tt_k 2 (S' := (116, [some (.inr (.inl 30)), some (.inl (s9 3049)), some (.inl 0)], [.inl (s9 3050)], n, D, s9, p, c)) rfl ?_
                refine tz_le (x := (s9 3050)) rfl rfl (by omega) (fun h241 => ?_) (fun h241 => ?_)
                · exfalso; omega
                · show tt Zi d 196 (119, [some (.inr (.inl 30)), some (.inl (s9 3049)), some (.inl 0)], [], n, D, s9, p, c) _
                  exact tt_rtv rfl rfl ⟨s9, c, rfl, rfl, hS9, hC, (fr_tr fr_rf f10 (by decide)), frc_rf, by show (s9 3050) = 0 → ∃ X, ((okS A aa (c 45 (s 3061).toNat)) ∧ VM (c 46 0) (c 46 1) (c 46 2) (c 46 3) (c 46 4) (s 3060) (gB A (aa + 5))) ∧ (plQ A (ZM (c 46 0) (c 46 1) (c 46 2) (c 46 3) (c 46 4) (s 3060) (gB A (aa + 5))) (s 3057) (s 3058) 5000 0 0 ((aa + 8, 0, 0), mB ((ZM (c 46 0) (c 46 1) (c 46 2) (c 46 3) (c 46 4) (s 3060) (gB A (aa + 5))) 3024), 0, fun _ => 0)) = some X ∧ (s9 3049) = (if X.1.2.1 = 255 then X.1.1 + 1 else X.1.1) ∧ mrl X.2.1 ((c 40)) ((c 41)) ((c 42)) ((c 43)) ∧ trl X.2.2.2 (4096 * s 3061) (s 3057) 0 (s 3058) ((c 44)) ∧ ofr (4096 * s 3061) (c 44) ((c 44)); intro hf; exact absurd hf (by omega), by show (s9 3050) ≠ 0 → ¬ ((okS A aa (c 45 (s 3061).toNat)) ∧ VM (c 46 0) (c 46 1) (c 46 2) (c 46 3) (c 46 4) (s 3060) (gB A (aa + 5))) ∨ (plQ A (ZM (c 46 0) (c 46 1) (c 46 2) (c 46 3) (c 46 4) (s 3060) (gB A (aa + 5))) (s 3057) (s 3058) 5000 0 0 ((aa + 8, 0, 0), mB ((ZM (c 46 0) (c 46 1) (c 46 2) (c 46 3) (c 46 4) (s 3060) (gB A (aa + 5))) 3024), 0, fun _ => 0)) = none; intro _; exact Or.inl hno, by show (s9 3050) ≠ 0 → (c 40) = c 40 ∧ (c 41) = c 41 ∧ (c 42) = c 42 ∧ (c 43) = c 43; intro _; exact ⟨rfl, rfl, rfl, rfl⟩, by show (s9 3050) = 0 → (s9 3061) = s 3061 + 1; intro hf; exact absurd hf (by omega), by show (s9 3050) = 0 → s 3049 ≤ (s9 3049); intro hf; exact absurd hf (by omega)⟩
              · exfalso; omega
            · exfalso; omega
          · exfalso; omega
        · exfalso; omega
      · exfalso; omega
    · exfalso; omega
