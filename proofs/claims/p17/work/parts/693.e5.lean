/-! the class's samples, runs and stops, exactly -/
abbrev YT : Type := (Nat → Int) × Int × Int × Int
/-- the row that is told, up to x of row y, and the row above it -/
def hrl (Y : YT) (fh fa : Nat → Int) : Prop := fh 0 = nB Y.1 0 Y.2.2.2 ∧ (∀ i : Int, 0 ≤ i → i < Y.2.2.1 → fh (i + 1).toNat = Y.1 (64 * Y.2.2.2 + i).toNat) ∧ fa 0 = (if 1 < Y.2.2.2 then Y.1 (64 * (Y.2.2.2 - 2) + 0).toNat else 0) ∧ (∀ i : Int, 0 ≤ i → i < Y.2.1 → fa (i + 1).toNat = nB Y.1 i Y.2.2.2) ∧ fa (Y.2.1 + 1).toNat = nB Y.1 (Y.2.1 - 1) Y.2.2.2
/-- y rows are told, the last of them lies here -/
def hE (T : Nat → Int) (w y : Int) (f : Nat → Int) : Prop := f 0 = (if 1 < y then T (64 * (y - 2) + 0).toNat else 0) ∧ ∀ i : Int, 0 ≤ i → i < w → f (i + 1).toNat = nB T i y
theorem or_hr {T : Nat → Int} {w y v1 v2 : Int} {f g h k : Nat → Int} {a b : Nat} (hf : hE T w y f) (hw : 1 ≤ w ∧ w ≤ 64) (hn : a ≠ b) (e1 : v1 = f 1) (e2 : v2 = f w.toNat) (e3 : h = ua g 0 v1) (e4 : k = ua f (w + 1).toNat v2) : hrl (T, w, 0, y) h k := by
  obtain ⟨h1, h2⟩ := hf
  subst e3 e4
  refine ⟨?_, fun i i0 i1 => absurd i1 (by show ¬ i < 0; omega), ?_, fun i i0 i1 => ?_, ?_⟩
  · show ua g 0 v1 0 = nB T 0 y
    rw [ua_eq, e1, ← h2 0 (by decide) (by omega)]
    rfl
  · show ua f (w + 1).toNat v2 0 = _
    rw [ua_ne (by omega)]
    exact h1
  · have i1 : i < w := i1
    show ua f (w + 1).toNat v2 (i + 1).toNat = nB T i y
    rw [ua_ne (by omega)]
    exact h2 i i0 i1
  · show ua f (w + 1).toNat v2 (w + 1).toNat = nB T (w - 1) y
    rw [ua_eq, e2, ← h2 (w - 1) (by omega) (by omega)]
    congr 1
    omega
theorem hr_a {Y : YT} {fh fa : Nat → Int} {x : Int} (h : hrl Y fh fa) (hx : 0 ≤ x) (h1 : x = Y.2.2.1 ∧ x < Y.2.1 ∧ Y.2.1 ≤ 64 ∧ 0 ≤ Y.2.2.2) (h2 : x ≤ 63) : fh x.toNat = nA Y.1 x Y.2.2.2 := by
  unfold nA
  by_cases e : 0 < x
  · rw [if_pos e, ← h.2.1 (x - 1) (by omega) (by omega)]
    congr 1
    omega
  · rw [if_neg e, show x = 0 by omega]
    exact h.1
theorem hr_b {Y : YT} {fh fa : Nat → Int} {x : Int} (h : hrl Y fh fa) (hx : 0 ≤ x) (h1 : x = Y.2.2.1 ∧ x < Y.2.1 ∧ Y.2.1 ≤ 64 ∧ 0 ≤ Y.2.2.2) (h2 : x ≤ 63) : fa (x + 1).toNat = nB Y.1 x Y.2.2.2 := h.2.2.2.1 x hx h1.2.1
theorem hr_c {Y : YT} {fh fa : Nat → Int} {x : Int} (h : hrl Y fh fa) (hx : 0 ≤ x) (h1 : x = Y.2.2.1 ∧ x < Y.2.1 ∧ Y.2.1 ≤ 64 ∧ 0 ≤ Y.2.2.2) (h2 : x ≤ 63) : fa x.toNat = nC Y.1 x Y.2.2.2 := by
  unfold nC
  by_cases e : 0 < x
  · rw [if_pos e]
    have h3 := h.2.2.2.1 (x - 1) (by omega) (by omega)
    rw [show x - 1 + 1 = x by omega] at h3
    rw [h3]
    rfl
  · rw [if_neg e, show x = 0 by omega]
    exact h.2.2.1
theorem hr_d {Y : YT} {fh fa : Nat → Int} {x : Int} (h : hrl Y fh fa) (hx : 0 ≤ x) (h1 : x = Y.2.2.1 ∧ x < Y.2.1 ∧ Y.2.1 ≤ 64 ∧ 0 ≤ Y.2.2.2) (h2 : x ≤ 63) : fa (x + 2).toNat = nD Y.1 Y.2.1 x Y.2.2.2 := by
  unfold nD
  by_cases e : x + 1 < Y.2.1
  · have h3 := h.2.2.2.1 (x + 1) (by omega) e
    rw [show x + 1 + 1 = x + 2 by omega] at h3
    rw [h3]
    unfold nB
    by_cases e2 : Y.2.2.2 = 0
    · rw [if_pos e2, if_neg (by omega)]
    · rw [if_neg e2, if_pos e, if_pos (by omega)]
  · have h3 := h.2.2.2.2
    rw [show Y.2.1 + 1 = x + 2 by omega, show Y.2.1 - 1 = x by omega] at h3
    rw [h3]
    by_cases e2 : Y.2.2.2 = 0
    · rw [if_pos e2]
      unfold nB
      rw [if_neg (by omega)]
    · rw [if_neg e2, if_neg e]
theorem fil_0 {T : Nat → Int} {j : Nat} {v : Int} : fil T j (1 - 1) v = T := by
  funext k
  unfold fil
  rw [if_neg (by omega)]
theorem fil_s {T : Nat → Int} {x i v : Int} (hx : 0 ≤ x) (hi : 1 ≤ i) : ua (fil T (x + 1).toNat (i - 1) v) (x + i).toNat v = fil T (x + 1).toNat (i + 1 - 1) v := by
  funext k
  unfold fil ua
  by_cases h : k = (x + i).toNat
  · rw [if_pos h, if_pos (by omega)]
  · rw [if_neg h]
    show (if ((x + 1).toNat : Int) ≤ k ∧ (k : Int) < (x + 1).toNat + (i - 1) then v else T k) = _
    by_cases h2 : ((x + 1).toNat : Int) ≤ k ∧ (k : Int) < (x + 1).toNat + (i - 1)
    · rw [if_pos h2, if_pos (by omega)]
    · rw [if_neg h2, if_neg (by omega)]
def smc (S : Int → Int) (rs w : Int) (f : Nat → Int) : Prop := ∀ xx : Int, 0 ≤ xx → xx < w → f (rs + xx).toNat = S xx
theorem rN_e {S : Int → Int} {a near w x n R : Int} {m : Nat} (h : rN S a near w m x n = R) (hm : 1 ≤ m) (hn : ¬ (x + n < w ∧ fA (S (x + n) - a) ≤ near)) : R = n := by
  obtain ⟨k, rfl⟩ : ∃ k, m = k + 1 := ⟨m - 1, by omega⟩
  rw [rN, if_neg hn] at h
  exact h.symm
theorem rN_s {S : Int → Int} {a near w x n R : Int} (h : rN S a near w (65 - n).toNat x n = R) (h0 : 0 ≤ n) (h1 : n ≤ 64) (hc : x + n < w ∧ fA (S (x + n) - a) ≤ near) : rN S a near w (65 - (n + 1)).toNat x (n + 1) = R := by
  rw [show (65 - n).toNat = (65 - (n + 1)).toNat + 1 by omega, rN, if_pos hc] at h
  exact h
theorem wB10 {W : WT} : wBits (1 : Int).toNat 0 W = wBit W 0 := rfl
def rwh (f g : Nat → Int) : Prop := g = f
def rLp (le p : Int) (R : Int × Int × WT) (z h r : Int) (f : Nat → Int) : Prop := ∃ (W : WT) (m : Nat), le < m ∧ wrl W z h r f ∧ rP m le p W = R
theorem rP_s {le p : Int} {W : WT} {m : Nat} {R : Int × Int × WT} (h : rP m le p W = R) (hm : le < m) (hc : 2 ^ (jj p).toNat ≤ le) : ∃ m2 : Nat, le - 2 ^ (jj p).toNat < m2 ∧ rP m2 (le - 2 ^ (jj p).toNat) (min 31 (p + 1)) (wBit W 1) = R := by
  have hp : (0 : Int) < 2 ^ (jj p).toNat := Int.pow_pos (by decide)
  obtain ⟨k, rfl⟩ : ∃ k, m = k + 1 := ⟨m - 1, by omega⟩
  rw [rP, if_pos hc] at h
  exact ⟨k, by omega, h⟩
theorem rP_e {le p : Int} {W : WT} {m : Nat} {R : Int × Int × WT} (h : rP m le p W = R) (hm : le < m) (h0 : 0 ≤ le) (hc : ¬ 2 ^ (jj p).toNat ≤ le) : R = (le, p, W) := by
  obtain ⟨k, rfl⟩ : ∃ k, m = k + 1 := ⟨m - 1, by omega⟩
  rw [rP, if_neg hc] at h
  exact h.symm
theorem rLp_e {le p z h r : Int} {R : Int × Int × WT} {f : Nat → Int} (hr : rLp le p R z h r f) (h0 : 0 ≤ le) (hc : ¬ 2 ^ (jj p).toNat ≤ le) : ∃ W, wrl W z h r f ∧ R = (le, p, W) := by
  obtain ⟨W, m, hm, hw, hR⟩ := hr
  exact ⟨W, hw, rP_e hR hm h0 hc⟩
theorem jj_7 {p : Int} (h : 0 ≤ p ∧ p ≤ 22) : jj p = 7 → (2 : Int) ^ (jj p).toNat = 128 := by
  intro e
  rw [e]
  decide
def xW (x n w : Int) (P : Int × Int × WT) : WT := if x + n < w then wBits (jj P.2.1).toNat P.1 (wBit P.2.2 0) else if 0 < P.1 then wBit P.2.2 1 else P.2.2
def gsm (Z : Nat → Int) (a b c d : Int) : Int := 81 * fG Z (d - b) + 9 * fG Z (b - c) + fG Z (c - a)
set_option maxRecDepth 100000 in
set_option maxHeartbeats 4000000 in
theorem e_openRow {g : Nat → Int} {Zi : Nat → Option (Nat × (Nat → Int))} {d n q : Nat} {D : Nat → Nat × Nat} {s : Nat → Int} {p : Nat → Nat} {c : Nat → Nat → Int} (hd : 0 ≤ d) (hz : zk Zi) (hq : q + 0 ≤ 400000) (hD : wd n p) (hS : bS s) (hC : bC D c) (hW : wp q g n D p s) (T : Nat → Int) (y : Int) (hp0 : hE T (s 1206) y (c (p 1204))) (hp1 : 1 ≤ s 1206) : tt Zi d 35 (0, [some (.inr (.inl 12)), none], [], n, D, s, p, c) (fun R H => ∃ (p' : Nat → Nat) (c' : Nat → Nat → Int), R = .inl none ∧ H = (n, D, s, p', c') ∧ bC D c' ∧ wp q g n D p' s ∧ frp p p' [1203, 1204] ∧ fk p c n p' c' [1203, 1204] ∧ (hrl (T, s 1206, 0, y) (c' (p' 1204)) (c' (p' 1203)))) := by
  have b1 : 0 ≤ (s 1206) ∧ (s 1206) ≤ 64 := hS 1206
  have hne : p 1203 ≠ p 1204 := hD.2 1203 (by decide) 1204 (by decide) (by decide)
  refine tt_k 14 (S' := (24, [some (.inr (.inl 12)), some (.inr (.inl (p 1203)))], [.inr (.inl 12), .inl 0, .inr (.inl (p 1203))], n, D, s, (up (up p 1203 (p 1204)) 1204 (p 1203)), c)) rfl ?_
  refine tt_k 2 (S' := (28, [some (.inr (.inl 12)), some (.inr (.inl (p 1203)))], [.inl 1, .inr (.inl (p 1204)), .inl 0, .inr (.inl (p 1203))], n, D, s, (up (up p 1203 (p 1204)) 1204 (p 1203)), c)) rfl ?_
  refine tt_ilb (i := 1) (m := 66) (lo := 0) (hi := 65535) rfl ((sw_arr (hW).a12 rfl rfl).2) (by omega) hC ((sw_12 (hW).a12).2) ?_
  intro v2 b3 hvv2
  show tt Zi d 35 (29, [some (.inr (.inl 12)), some (.inr (.inl (p 1203)))], [.inl v2, .inl 0, .inr (.inl (p 1203))], n, D, s, (up (up p 1203 (p 1204)) 1204 (p 1203)), c) _
  refine tt_isb (i := 0) (m := 66) (lo := 0) (hi := 65535) (x := v2) rfl ((sw_arr (hW).a12 rfl rfl).1) (by omega) hC ((sw_12 (hW).a12).1) (by omega) ?_
  intro c4 hC4 ec4
  show tt Zi d 35 (30, [some (.inr (.inl 12)), some (.inr (.inl (p 1203)))], [], n, D, s, (up (up p 1203 (p 1204)) 1204 (p 1203)), c4) _
  have FK5 : fk p c n (up (up p 1203 (p 1204)) 1204 (p 1203)) c4 [1203, 1204] := fk_st (k := 1204) (fk_sw (k := 1203) (j := 1204) (fk_rf hD) (by decide)) ec4 (by decide) rfl
  refine tt_k 10 (S' := (48, [some (.inr (.inl 12)), some (.inr (.inl (p 1203)))], [.inl (s 1206), .inr (.inl (p 1204)), .inl ((s 1206) + 1), .inr (.inl (p 1204))], n, D, s, (up (up p 1203 (p 1204)) 1204 (p 1203)), c4)) rfl ?_
  refine tt_ilb (i := (s 1206)) (m := 66) (lo := 0) (hi := 65535) rfl ((sw_arr (hW).a12 rfl rfl).2) (by omega) hC4 ((sw_12 (hW).a12).2) ?_
  intro v6 b7 hvv6
  show tt Zi d 35 (49, [some (.inr (.inl 12)), some (.inr (.inl (p 1203)))], [.inl v6, .inl ((s 1206) + 1), .inr (.inl (p 1204))], n, D, s, (up (up p 1203 (p 1204)) 1204 (p 1203)), c4) _
  refine tt_isb (i := ((s 1206) + 1)) (m := 66) (lo := 0) (hi := 65535) (x := v6) rfl ((sw_arr (hW).a12 rfl rfl).2) (by omega) hC4 ((sw_12 (hW).a12).2) (by omega) ?_
  intro c8 hC8 ec8
  show tt Zi d 35 (50, [some (.inr (.inl 12)), some (.inr (.inl (p 1203)))], [], n, D, s, (up (up p 1203 (p 1204)) 1204 (p 1203)), c8) _
  have FK9 : fk p c n (up (up p 1203 (p 1204)) 1204 (p 1203)) c8 [1203, 1204] := fk_st (k := 1203) FK5 ec8 (by decide) rfl
  exact tt_rtv rfl rfl ⟨(up (up p 1203 (p 1204)) 1204 (p 1203)), c8, rfl, rfl, hC8, (wp_sw12 hW), (frp_up (by decide) (frp_up (by decide) frp_rf)), FK9, by show hrl (T, s 1206, 0, y) (c8 (p 1203)) (c8 (p 1204)); exact or_hr (v1 := v2) (v2 := v6) (f := c (p 1204)) (g := c (p 1203)) hp0 (by omega) hne (by rw [← hvv2]; rfl) (by rw [← hvv6, ec4, uc_ne hne.symm]) (by rw [ec8, uc_ne hne, ec4, uc_eq]; rfl) (by rw [ec8, uc_eq, ec4, uc_ne hne.symm])⟩
set_option maxRecDepth 100000 in
set_option maxHeartbeats 4000000 in
theorem e_look {g : Nat → Int} {Zi : Nat → Option (Nat × (Nat → Int))} {d n q : Nat} {D : Nat → Nat × Nat} {s : Nat → Int} {p : Nat → Nat} {c : Nat → Nat → Int} (hd : 1 ≤ d) (hz : zk Zi) (hq : q + 2 ≤ 400000) (hD : wd n p) (hS : bS s) (hC : bC D c) (hW : wp q g n D p s) (Z : Nat → Int) (Y : YT) (x : Int) (b_x : 0 ≤ x ∧ x ≤ 63) (hp0 : hrl Y (c (p 1204)) (c (p 1203))) (hp1 : zq Z (s 800) (s 801) (s 802) (s 803) (s 804) (s 805) (s 806) (s 807) (s 808) (s 809)) (hp2 : x = Y.2.2.1 ∧ x < Y.2.1 ∧ Y.2.1 ≤ 64 ∧ 0 ≤ Y.2.2.2) : tt Zi d 36 (0, [some (.inr (.inl 12)), some (.inl x), none], [], n, D, s, p, c) (fun R H => ∃ (s' : Nat → Int), R = .inl none ∧ H = (n, D, s', p, c) ∧ bS s' ∧ wp q g n D p s' ∧ fr s s' [1208, 1209, 1210, 1211, 1215] ∧ (s' 1208 = nA Y.1 x Y.2.2.2) ∧ (s' 1209 = nB Y.1 x Y.2.2.2) ∧ (s' 1210 = nC Y.1 x Y.2.2.2) ∧ (s' 1215 = (if gsm Z (nA Y.1 x Y.2.2.2) (nB Y.1 x Y.2.2.2) (nC Y.1 x Y.2.2.2) (nD Y.1 Y.2.1 x Y.2.2.2) < 0 then 1 else 0)) ∧ (s' 1211 = fA (gsm Z (nA Y.1 x Y.2.2.2) (nB Y.1 x Y.2.2.2) (nC Y.1 x Y.2.2.2) (nD Y.1 Y.2.1 x Y.2.2.2)))) := by
  refine tt_k 4 (S' := (6, [some (.inr (.inl 12)), some (.inl x), none], [.inl x, .inr (.inl (p 1204)), .inr (.inl 12)], n, D, s, p, c)) rfl ?_
  refine tt_ilb (i := x) (m := 66) (lo := 0) (hi := 65535) rfl ((sw_arr (hW).a12 rfl rfl).2) (by omega) hC ((sw_12 (hW).a12).2) ?_
  intro v1 b2 hvv1
  show tt Zi d 36 (7, [some (.inr (.inl 12)), some (.inl x), none], [.inl v1, .inr (.inl 12)], n, D, s, p, c) _
  have hwv1 : v1 = nA Y.1 x Y.2.2.2 := by rw [← hvv1]; exact hr_a hp0 (by omega) (by omega) (by omega)
  refine tt_k 7 (S' := (18, [some (.inr (.inl 12)), some (.inl x), none], [.inl (x + 1), .inr (.inl (p 1203)), .inr (.inl 12)], n, D, (us s 1208 v1), p, c)) rfl ?_
  refine tt_ilb (i := (x + 1)) (m := 66) (lo := 0) (hi := 65535) rfl ((sw_arr (hW).a12 rfl rfl).1) (by omega) hC ((sw_12 (hW).a12).1) ?_
  intro v3 b4 hvv3
  show tt Zi d 36 (19, [some (.inr (.inl 12)), some (.inl x), none], [.inl v3, .inr (.inl 12)], n, D, (us s 1208 v1), p, c) _
  have hwv3 : v3 = nB Y.1 x Y.2.2.2 := by rw [← hvv3]; exact hr_b hp0 (by omega) (by omega) (by omega)
  refine tt_k 5 (S' := (28, [some (.inr (.inl 12)), some (.inl x), none], [.inl x, .inr (.inl (p 1203)), .inr (.inl 12)], n, D, (us (us s 1208 v1) 1209 v3), p, c)) rfl ?_
  refine tt_ilb (i := x) (m := 66) (lo := 0) (hi := 65535) rfl ((sw_arr (hW).a12 rfl rfl).1) (by omega) hC ((sw_12 (hW).a12).1) ?_
  intro v5 b6 hvv5
  show tt Zi d 36 (29, [some (.inr (.inl 12)), some (.inl x), none], [.inl v5, .inr (.inl 12)], n, D, (us (us s 1208 v1) 1209 v3), p, c) _
  have hwv5 : v5 = nC Y.1 x Y.2.2.2 := by rw [← hvv5]; exact hr_c hp0 (by omega) (by omega) (by omega)
  refine tt_k 9 (S' := (45, [some (.inr (.inl 12)), some (.inl x), none], [.inl (x + 2), .inr (.inl (p 1203)), .inr (.inl 8), .inl 81], n, D, (us (us (us s 1208 v1) 1209 v3) 1210 v5), p, c)) rfl ?_
  refine tt_ilb (i := (x + 2)) (m := 66) (lo := 0) (hi := 65535) rfl ((sw_arr (hW).a12 rfl rfl).1) (by omega) hC ((sw_12 (hW).a12).1) ?_
  intro v7 b8 hvv7
  show tt Zi d 36 (46, [some (.inr (.inl 12)), some (.inl x), none], [.inl v7, .inr (.inl 8), .inl 81], n, D, (us (us (us s 1208 v1) 1209 v3) 1210 v5), p, c) _
  have hwv7 : v7 = nD Y.1 Y.2.1 x Y.2.2.2 := by rw [← hvv7]; exact hr_d hp0 (by omega) (by omega) (by omega)
  refine tt_k 3 (S' := (51, [some (.inr (.inl 12)), some (.inl x), none], [.inl (v7 - v3), .inr (.inl 8), .inl 81], n, D, (us (us (us s 1208 v1) 1209 v3) 1210 v5), p, c)) rfl ?_
  have b9 : 0 ≤ (s 800) ∧ (s 800) ≤ 65535 := hS 800
  have b10 : -2147483648 ≤ (s 801) ∧ (s 801) ≤ 2147483647 := hS 801
  have b11 : -2147483648 ≤ (s 802) ∧ (s 802) ≤ 2147483647 := hS 802
  have b12 : -2147483648 ≤ (s 803) ∧ (s 803) ≤ 2147483647 := hS 803
  have b13 : -2147483648 ≤ (s 804) ∧ (s 804) ≤ 2147483647 := hS 804
  have b14 : 0 ≤ (s 805) ∧ (s 805) ≤ 65535 := hS 805
  have b15 : 1 ≤ (s 806) ∧ (s 806) ≤ 511 := hS 806
  have b16 : 0 ≤ (s 807) ∧ (s 807) ≤ 65536 := hS 807
  have b17 : 0 ≤ (s 808) ∧ (s 808) ≤ 30 := hS 808
  have b18 : 0 ≤ (s 809) ∧ (s 809) ≤ 64 := hS 809
  refine tt_cl (by omega) rfl (e_grade (Zi := Zi) (q := q) (n := n) (D := D) (s := (us (us (us s 1208 v1) 1209 v3) 1210 v5)) (p := p) (c := c) (by omega) hz (by omega) hD (bS_us (bS_us (bS_us hS (show 0 ≤ v1 ∧ v1 ≤ 65535 by omega)) (show 0 ≤ v3 ∧ v3 ≤ 65535 by omega)) (show 0 ≤ v5 ∧ v5 ≤ 65535 by omega)) hC (wp_us (by decide) (wp_us (by decide) (wp_us (by decide) hW))) Z (v7 - v3) (by omega) hp1) ?_
  rintro _ _ ⟨r19, rfl, rfl, b20, k21⟩
  show tt Zi d 36 (54, [some (.inr (.inl 12)), some (.inl x), none], [.inl r19, .inl 81], n, D, (us (us (us s 1208 v1) 1209 v3) 1210 v5), p, c) _
  replace k21 : r19 = fG Z (v7 - v3) := k21
  refine tt_k 9 (S' := (70, [some (.inr (.inl 12)), some (.inl x), none], [.inl (v3 - v5), .inr (.inl 8), .inl 9, .inl (81 * r19)], n, D, (us (us (us s 1208 v1) 1209 v3) 1210 v5), p, c)) rfl ?_
  refine tt_cl (by omega) rfl (e_grade (Zi := Zi) (q := q) (n := n) (D := D) (s := (us (us (us s 1208 v1) 1209 v3) 1210 v5)) (p := p) (c := c) (by omega) hz (by omega) hD (bS_us (bS_us (bS_us hS (show 0 ≤ v1 ∧ v1 ≤ 65535 by omega)) (show 0 ≤ v3 ∧ v3 ≤ 65535 by omega)) (show 0 ≤ v5 ∧ v5 ≤ 65535 by omega)) hC (wp_us (by decide) (wp_us (by decide) (wp_us (by decide) hW))) Z (v3 - v5) (by omega) hp1) ?_
  rintro _ _ ⟨r22, rfl, rfl, b23, k24⟩
  show tt Zi d 36 (73, [some (.inr (.inl 12)), some (.inl x), none], [.inl r22, .inl 9, .inl (81 * r19)], n, D, (us (us (us s 1208 v1) 1209 v3) 1210 v5), p, c) _
  replace k24 : r22 = fG Z (v3 - v5) := k24
  refine tt_k 9 (S' := (88, [some (.inr (.inl 12)), some (.inl x), none], [.inl (v5 - v1), .inr (.inl 8), .inl ((81 * r19) + (9 * r22))], n, D, (us (us (us s 1208 v1) 1209 v3) 1210 v5), p, c)) rfl ?_
  refine tt_cl (by omega) rfl (e_grade (Zi := Zi) (q := q) (n := n) (D := D) (s := (us (us (us s 1208 v1) 1209 v3) 1210 v5)) (p := p) (c := c) (by omega) hz (by omega) hD (bS_us (bS_us (bS_us hS (show 0 ≤ v1 ∧ v1 ≤ 65535 by omega)) (show 0 ≤ v3 ∧ v3 ≤ 65535 by omega)) (show 0 ≤ v5 ∧ v5 ≤ 65535 by omega)) hC (wp_us (by decide) (wp_us (by decide) (wp_us (by decide) hW))) Z (v5 - v1) (by omega) hp1) ?_
  rintro _ _ ⟨r25, rfl, rfl, b26, k27⟩
  show tt Zi d 36 (91, [some (.inr (.inl 12)), some (.inl x), none], [.inl r25, .inl ((81 * r19) + (9 * r22))], n, D, (us (us (us s 1208 v1) 1209 v3) 1210 v5), p, c) _
  replace k27 : r25 = fG Z (v5 - v1) := k27
  refine tt_k 1 (S' := (92, [some (.inr (.inl 12)), some (.inl x), none], [.inl ((((81 * r19) + (9 * r22)) + r25))], n, D, (us (us (us s 1208 v1) 1209 v3) 1210 v5), p, c)) rfl ?_
  have hsum : (((81 * r19) + (9 * r22)) + r25) = gsm Z (nA Y.1 x Y.2.2.2) (nB Y.1 x Y.2.2.2) (nC Y.1 x Y.2.2.2) (nD Y.1 Y.2.1 x Y.2.2.2) := by unfold gsm; rw [← hwv1, ← hwv3, ← hwv5, ← hwv7, k21, k24, k27]
  refine tt_k 3 (S' := (95, [some (.inr (.inl 12)), some (.inl x), some (.inl ((((81 * r19) + (9 * r22)) + r25)))], [.inl ((((81 * r19) + (9 * r22)) + r25)), .inr (.inl 12)], n, D, (us (us (us s 1208 v1) 1209 v3) 1210 v5), p, c)) rfl ?_
  have K29 : ∀ (j28 : Int) , (0 ≤ j28 ∧ j28 ≤ 1) → (j28 = (if (((81 * r19) + (9 * r22)) + r25) < 0 then 1 else 0)) → (True) → tt Zi d 36 (103, [some (.inr (.inl 12)), some (.inl x), some (.inl ((((81 * r19) + (9 * r22)) + r25)))], [.inl j28, .inr (.inl 12)], n, D, (us (us (us s 1208 v1) 1209 v3) 1210 v5), p, c) (fun R H => ∃ (s' : Nat → Int), R = .inl none ∧ H = (n, D, s', p, c) ∧ bS s' ∧ wp q g n D p s' ∧ fr s s' [1208, 1209, 1210, 1211, 1215] ∧ (s' 1208 = nA Y.1 x Y.2.2.2) ∧ (s' 1209 = nB Y.1 x Y.2.2.2) ∧ (s' 1210 = nC Y.1 x Y.2.2.2) ∧ (s' 1215 = (if gsm Z (nA Y.1 x Y.2.2.2) (nB Y.1 x Y.2.2.2) (nC Y.1 x Y.2.2.2) (nD Y.1 Y.2.1 x Y.2.2.2) < 0 then 1 else 0)) ∧ (s' 1211 = fA (gsm Z (nA Y.1 x Y.2.2.2) (nB Y.1 x Y.2.2.2) (nC Y.1 x Y.2.2.2) (nD Y.1 Y.2.1 x Y.2.2.2)))) := by
    intro j28 b31 b32 hj30
    refine tt_ptb (x := j28) rfl rfl rfl rfl rfl (by omega) ?_
    show tt Zi d 36 (106, [some (.inr (.inl 12)), some (.inl x), some (.inl ((((81 * r19) + (9 * r22)) + r25)))], [], n, D, (us (us (us (us s 1208 v1) 1209 v3) 1210 v5) 1215 j28), p, c) _
    refine tt_k 2 (S' := (108, [some (.inr (.inl 12)), some (.inl x), some (.inl ((((81 * r19) + (9 * r22)) + r25)))], [.inl ((((81 * r19) + (9 * r22)) + r25)), .inr (.inl 12)], n, D, (us (us (us (us s 1208 v1) 1209 v3) 1210 v5) 1215 j28), p, c)) rfl ?_
    refine tt_abs (k := 0) (x := (((81 * r19) + (9 * r22)) + r25)) rfl rfl (Nat.le_of_ble_eq_true rfl) (by omega) ?_
    show tt Zi d 36 (111, [some (.inr (.inl 12)), some (.inl x), some (.inl ((((81 * r19) + (9 * r22)) + r25)))], [.inl ((if 0 ≤ (((81 * r19) + (9 * r22)) + r25) then (((81 * r19) + (9 * r22)) + r25) else -(((81 * r19) + (9 * r22)) + r25))), .inr (.inl 12)], n, D, (us (us (us (us s 1208 v1) 1209 v3) 1210 v5) 1215 j28), p, c) _
    refine tt_k 1 (S' := (114, [some (.inr (.inl 12)), some (.inl x), some (.inl ((((81 * r19) + (9 * r22)) + r25)))], [], n, D, (us (us (us (us (us s 1208 v1) 1209 v3) 1210 v5) 1215 j28) 1211 ((if 0 ≤ (((81 * r19) + (9 * r22)) + r25) then (((81 * r19) + (9 * r22)) + r25) else -(((81 * r19) + (9 * r22)) + r25)))), p, c)) rfl ?_
    exact tt_rtv rfl rfl ⟨(us (us (us (us (us s 1208 v1) 1209 v3) 1210 v5) 1215 j28) 1211 ((if 0 ≤ (((81 * r19) + (9 * r22)) + r25) then (((81 * r19) + (9 * r22)) + r25) else -(((81 * r19) + (9 * r22)) + r25)))), rfl, rfl, (bS_us (bS_us (bS_us (bS_us (bS_us hS (show 0 ≤ v1 ∧ v1 ≤ 65535 by omega)) (show 0 ≤ v3 ∧ v3 ≤ 65535 by omega)) (show 0 ≤ v5 ∧ v5 ≤ 65535 by omega)) (show 0 ≤ j28 ∧ j28 ≤ 1 by omega)) (show 0 ≤ (if 0 ≤ (((81 * r19) + (9 * r22)) + r25) then (((81 * r19) + (9 * r22)) + r25) else -(((81 * r19) + (9 * r22)) + r25)) ∧ (if 0 ≤ (((81 * r19) + (9 * r22)) + r25) then (((81 * r19) + (9 * r22)) + r25) else -(((81 * r19) + (9 * r22)) + r25)) ≤ 366 by omega)), (wp_us (by decide) (wp_us (by decide) (wp_us (by decide) (wp_us (by decide) (wp_us (by decide) hW))))), (fr_us (by decide) (fr_us (by decide) (fr_us (by decide) (fr_us (by decide) (fr_us (by decide) fr_rf))))), by show v1 = nA Y.1 x Y.2.2.2; exact hwv1, by show v3 = nB Y.1 x Y.2.2.2; exact hwv3, by show v5 = nC Y.1 x Y.2.2.2; exact hwv5, by show j28 = (if gsm Z (nA Y.1 x Y.2.2.2) (nB Y.1 x Y.2.2.2) (nC Y.1 x Y.2.2.2) (nD Y.1 Y.2.1 x Y.2.2.2) < 0 then 1 else 0); rw [b32, hsum], by show ((if 0 ≤ (((81 * r19) + (9 * r22)) + r25) then (((81 * r19) + (9 * r22)) + r25) else -(((81 * r19) + (9 * r22)) + r25))) = fA (gsm Z (nA Y.1 x Y.2.2.2) (nB Y.1 x Y.2.2.2) (nC Y.1 x Y.2.2.2) (nD Y.1 Y.2.1 x Y.2.2.2)); unfold fA; rw [← hsum]⟩
  refine tz_ge (x := (((81 * r19) + (9 * r22)) + r25)) rfl rfl (by omega) (fun h33 => ?_) (fun h33 => ?_)
  · show tt Zi d 36 (102, [some (.inr (.inl 12)), some (.inl x), some (.inl ((((81 * r19) + (9 * r22)) + r25)))], [.inr (.inl 12)], n, D, (us (us (us s 1208 v1) 1209 v3) 1210 v5), p, c) _
    refine tt_k 1 (S' := (103, [some (.inr (.inl 12)), some (.inl x), some (.inl ((((81 * r19) + (9 * r22)) + r25)))], [.inl 0, .inr (.inl 12)], n, D, (us (us (us s 1208 v1) 1209 v3) 1210 v5), p, c)) rfl ?_
    exact K29 0  (by omega) (by first | rw [if_pos (by omega)] | rw [if_neg (by omega)]) (trivial)
  · show tt Zi d 36 (98, [some (.inr (.inl 12)), some (.inl x), some (.inl ((((81 * r19) + (9 * r22)) + r25)))], [.inr (.inl 12)], n, D, (us (us (us s 1208 v1) 1209 v3) 1210 v5), p, c) _
    refine tt_k 2 (S' := (103, [some (.inr (.inl 12)), some (.inl x), some (.inl ((((81 * r19) + (9 * r22)) + r25)))], [.inl 1, .inr (.inl 12)], n, D, (us (us (us s 1208 v1) 1209 v3) 1210 v5), p, c)) rfl ?_
    exact K29 1  (by omega) (by first | rw [if_pos (by omega)] | rw [if_neg (by omega)]) (trivial)
set_option maxRecDepth 100000 in
set_option maxHeartbeats 4000000 in
theorem e_aim {g : Nat → Int} {Zi : Nat → Option (Nat × (Nat → Int))} {d n q : Nat} {D : Nat → Nat × Nat} {s : Nat → Int} {p : Nat → Nat} {c : Nat → Nat → Int} (hd : 1 ≤ d) (hz : zk Zi) (hq : q + 2 ≤ 400000) (hD : wd n p) (hS : bS s) (hC : bC D c) (hW : wp q g n D p s) (t : Int) (Z : Nat → Int) (M : MT) (hp0 : mrc M (c (p 901))) (hp1 : zq Z (s 800) (s 801) (s 802) (s 803) (s 804) (s 805) (s 806) (s 807) (s 808) (s 809)) (hp2 : mv Z) (hp3 : pl Z t M) (hp4 : 0 ≤ t ∧ t ≤ 4095) : tt Zi d 38 (0, [some (.inr (.inl 12)), none, none, none, none], [], n, D, s, p, c) (fun R H => ∃ (s' : Nat → Int), R = .inl none ∧ H = (n, D, s', p, c) ∧ bS s' ∧ wp q g n D p s' ∧ fr s s' [1213, 1214, 1216] ∧ (s' 1214 = gR Z (s 1208) (s 1209) (s 1210) (s 1215) (s 1211).toNat M) ∧ (s' 1213 = ke (M 36 (s 1211).toNat) (M 39 (s 1211).toNat)) ∧ (s' 1216 = oR Z (s 1211).toNat M)) := by
  have hzq := hp1
  obtain ⟨z0, z1, z2, z3, z4, z5, z6, z7, z8, z9⟩ := hzq
  have mvx := mv_fx (s := Z) hp2
  have b1 : 0 ≤ (s 1211) ∧ (s 1211) ≤ 366 := hS 1211
  have hb := pl_bd (s := Z) (c := M) (i := (s 1211).toNat) hp2 (by omega) (hp3 (s 1211).toNat (by omega))
  refine tt_k 4 (S' := (8, [some (.inr (.inl 12)), none, none, none, none], [.inl (s 1209), .inl (s 1208)], n, D, s, p, c)) rfl ?_
  have b2 : 0 ≤ (s 1208) ∧ (s 1208) ≤ 65535 := hS 1208
  have b3 : 0 ≤ (s 1209) ∧ (s 1209) ≤ 65535 := hS 1209
  refine tt_min (k := 0) (x := (s 1208)) (y := (s 1209)) rfl rfl (Nat.le_of_ble_eq_true rfl) (by omega) ?_
  refine tt_k 5 (S' := (20, [some (.inr (.inl 12)), some (.inl (min (s 1208) (s 1209))), none, none, none], [.inl (s 1209), .inl (s 1208)], n, D, s, p, c)) rfl ?_
  refine tt_max (k := 0) (x := (s 1208)) (y := (s 1209)) rfl rfl (Nat.le_of_ble_eq_true rfl) (by omega) ?_
  refine tt_k 4 (S' := (29, [some (.inr (.inl 12)), some (.inl (min (s 1208) (s 1209))), some (.inl (max (s 1208) (s 1209))), none, none], [.inl (max (s 1208) (s 1209)), .inl (s 1210)], n, D, s, p, c)) rfl ?_
  have b4 : 0 ≤ (s 1210) ∧ (s 1210) ≤ 65535 := hS 1210
  have K6 : ∀ (j5 : Int) , (-65534 ≤ j5 ∧ j5 ≤ 131069) → (j5 = fP (s 1208) (s 1209) (s 1210)) → (True) → tt Zi d 38 (62, [some (.inr (.inl 12)), some (.inl (min (s 1208) (s 1209))), some (.inl (max (s 1208) (s 1209))), none, none], [.inl j5], n, D, s, p, c) (fun R H => ∃ (s' : Nat → Int), R = .inl none ∧ H = (n, D, s', p, c) ∧ bS s' ∧ wp q g n D p s' ∧ fr s s' [1213, 1214, 1216] ∧ (s' 1214 = gR Z (s 1208) (s 1209) (s 1210) (s 1215) (s 1211).toNat M) ∧ (s' 1213 = ke (M 36 (s 1211).toNat) (M 39 (s 1211).toNat)) ∧ (s' 1216 = oR Z (s 1211).toNat M)) := by
    intro j5 b8 b9 hj7
    refine tt_k 5 (S' := (71, [some (.inr (.inl 12)), some (.inl (min (s 1208) (s 1209))), some (.inl (max (s 1208) (s 1209))), some (.inl j5), none], [.inl (s 1211), .inr (.inl 9)], n, D, s, p, c)) rfl ?_
    refine tt_cl (by omega) rfl (e_correction (Zi := Zi) (q := q) (n := n) (D := D) (s := s) (p := p) (c := c) (by omega) hz (by omega) hD hS hC hW M (s 1211) (by omega) hp0) ?_
    rintro _ _ ⟨r10, rfl, rfl, b11, k12⟩
    show tt Zi d 38 (74, [some (.inr (.inl 12)), some (.inl (min (s 1208) (s 1209))), some (.inl (max (s 1208) (s 1209))), some (.inl j5), none], [.inl r10], n, D, s, p, c) _
    replace k12 : r10 = M 38 (s 1211).toNat := k12
    refine tt_k 6 (S' := (85, [some (.inr (.inl 12)), some (.inl (min (s 1208) (s 1209))), some (.inl (max (s 1208) (s 1209))), some (.inl j5), some (.inl r10)], [.inl (s 1215), .inr (.inl 8), .inr (.inl 12)], n, D, s, p, c)) rfl ?_
    have b13 : 0 ≤ (s 1215) ∧ (s 1215) ≤ 1 := hS 1215
    have K15 : ∀ (j14 : Int) , (-2147549182 ≤ j14 ∧ j14 ≤ 2147614717) → (j14 = (if s 1215 = 1 then j5 - r10 else j5 + r10)) → (True) → tt Zi d 38 (99, [some (.inr (.inl 12)), some (.inl (min (s 1208) (s 1209))), some (.inl (max (s 1208) (s 1209))), some (.inl j5), some (.inl r10)], [.inl j14, .inr (.inl 8), .inr (.inl 12)], n, D, s, p, c) (fun R H => ∃ (s' : Nat → Int), R = .inl none ∧ H = (n, D, s', p, c) ∧ bS s' ∧ wp q g n D p s' ∧ fr s s' [1213, 1214, 1216] ∧ (s' 1214 = gR Z (s 1208) (s 1209) (s 1210) (s 1215) (s 1211).toNat M) ∧ (s' 1213 = ke (M 36 (s 1211).toNat) (M 39 (s 1211).toNat)) ∧ (s' 1216 = oR Z (s 1211).toNat M)) := by
      intro j14 b17 b18 hj16
      have b19 : 0 ≤ (s 800) ∧ (s 800) ≤ 65535 := hS 800
      have b20 : -2147483648 ≤ (s 801) ∧ (s 801) ≤ 2147483647 := hS 801
      have b21 : -2147483648 ≤ (s 802) ∧ (s 802) ≤ 2147483647 := hS 802
      have b22 : -2147483648 ≤ (s 803) ∧ (s 803) ≤ 2147483647 := hS 803
      have b23 : -2147483648 ≤ (s 804) ∧ (s 804) ≤ 2147483647 := hS 804
      have b24 : 0 ≤ (s 805) ∧ (s 805) ≤ 65535 := hS 805
      have b25 : 1 ≤ (s 806) ∧ (s 806) ≤ 511 := hS 806
      have b26 : 0 ≤ (s 807) ∧ (s 807) ≤ 65536 := hS 807
      have b27 : 0 ≤ (s 808) ∧ (s 808) ≤ 30 := hS 808
      have b28 : 0 ≤ (s 809) ∧ (s 809) ≤ 64 := hS 809
      refine tt_cl (by omega) rfl (e_within (Zi := Zi) (q := q) (n := n) (D := D) (s := s) (p := p) (c := c) (by omega) hz (by omega) hD hS hC hW Z j14 (by omega) hp1) ?_
      rintro _ _ ⟨r29, rfl, rfl, b30, k31⟩
      show tt Zi d 38 (102, [some (.inr (.inl 12)), some (.inl (min (s 1208) (s 1209))), some (.inl (max (s 1208) (s 1209))), some (.inl j5), some (.inl r10)], [.inl r29, .inr (.inl 12)], n, D, s, p, c) _
      replace k31 : r29 = fW Z j14 := k31
      have hgr : r29 = gR Z (s 1208) (s 1209) (s 1210) (s 1215) (s 1211).toNat M := by rw [k31]; unfold gR; rw [b18, b9, k12]
      refine tt_k 7 (S' := (115, [some (.inr (.inl 12)), some (.inl (min (s 1208) (s 1209))), some (.inl (max (s 1208) (s 1209))), some (.inl j5), some (.inl r10)], [.inl 0, .inl (s 1211), .inr (.inl 9), .inr (.inl 12)], n, D, (us s 1214 r29), p, c)) rfl ?_
      refine tt_cl (by omega) rfl (e_lowBits (Zi := Zi) (q := q) (n := n) (D := D) (s := (us s 1214 r29)) (p := p) (c := c) (by omega) hz (by omega) hD (bS_us hS (show 0 ≤ r29 ∧ r29 ≤ 65535 by omega)) hC (wp_us (by decide) hW) t Z M (s 1211) 0 (by omega) (by omega) hp0 hp2 hp3 hp4) ?_
      rintro _ _ ⟨r32, rfl, rfl, b33, k34⟩
      show tt Zi d 38 (118, [some (.inr (.inl 12)), some (.inl (min (s 1208) (s 1209))), some (.inl (max (s 1208) (s 1209))), some (.inl j5), some (.inl r10)], [.inl r32, .inr (.inl 12)], n, D, (us s 1214 r29), p, c) _
      replace k34 : r32 = ke (M 36 (s 1211).toNat + (if 0 = 1 then M 39 (s 1211).toNat / 2 else 0)) (M 39 (s 1211).toNat) := k34
      have hkk : r32 = ke (M 36 (s 1211).toNat) (M 39 (s 1211).toNat) := by have h := k34; rw [if_neg (by decide), Int.add_zero] at h; exact h
      clear k34
      refine tt_k 5 (S' := (129, [some (.inr (.inl 12)), some (.inl (min (s 1208) (s 1209))), some (.inl (max (s 1208) (s 1209))), some (.inl j5), some (.inl r10)], [.inl (s 801), .inr (.inl 12)], n, D, (us (us s 1214 r29) 1213 r32), p, c)) rfl ?_
      have K36 : ∀ (j35 : Int) , (0 ≤ j35 ∧ j35 ≤ 1) → (j35 = oR Z (s 1211).toNat M) → (True) → tt Zi d 38 (158, [some (.inr (.inl 12)), some (.inl (min (s 1208) (s 1209))), some (.inl (max (s 1208) (s 1209))), some (.inl j5), some (.inl r10)], [.inl j35, .inr (.inl 12)], n, D, (us (us s 1214 r29) 1213 r32), p, c) (fun R H => ∃ (s' : Nat → Int), R = .inl none ∧ H = (n, D, s', p, c) ∧ bS s' ∧ wp q g n D p s' ∧ fr s s' [1213, 1214, 1216] ∧ (s' 1214 = gR Z (s 1208) (s 1209) (s 1210) (s 1215) (s 1211).toNat M) ∧ (s' 1213 = ke (M 36 (s 1211).toNat) (M 39 (s 1211).toNat)) ∧ (s' 1216 = oR Z (s 1211).toNat M)) := by
        intro j35 b38 b39 hj37
        refine tt_ptb (x := j35) rfl rfl rfl rfl rfl (by omega) ?_
        show tt Zi d 38 (161, [some (.inr (.inl 12)), some (.inl (min (s 1208) (s 1209))), some (.inl (max (s 1208) (s 1209))), some (.inl j5), some (.inl r10)], [], n, D, (us (us (us s 1214 r29) 1213 r32) 1216 j35), p, c) _
        exact tt_rtv rfl rfl ⟨(us (us (us s 1214 r29) 1213 r32) 1216 j35), rfl, rfl, (bS_us (bS_us (bS_us hS (show 0 ≤ r29 ∧ r29 ≤ 65535 by omega)) (show 0 ≤ r32 ∧ r32 ≤ 30 by omega)) (show 0 ≤ j35 ∧ j35 ≤ 1 by omega)), (wp_us (by decide) (wp_us (by decide) (wp_us (by decide) hW))), (fr_us (by decide) (fr_us (by decide) (fr_us (by decide) fr_rf))), by show r29 = gR Z (s 1208) (s 1209) (s 1210) (s 1215) (s 1211).toNat M; exact hgr, by show r32 = ke (M 36 (s 1211).toNat) (M 39 (s 1211).toNat); exact hkk, by show j35 = oR Z (s 1211).toNat M; exact b39⟩
      refine tz_ne (x := (s 801)) rfl rfl (by omega) (fun h40 => ?_) (fun h40 => ?_)
      · show tt Zi d 38 (157, [some (.inr (.inl 12)), some (.inl (min (s 1208) (s 1209))), some (.inl (max (s 1208) (s 1209))), some (.inl j5), some (.inl r10)], [.inr (.inl 12)], n, D, (us (us s 1214 r29) 1213 r32), p, c) _
        refine tt_k 1 (S' := (158, [some (.inr (.inl 12)), some (.inl (min (s 1208) (s 1209))), some (.inl (max (s 1208) (s 1209))), some (.inl j5), some (.inl r10)], [.inl 0, .inr (.inl 12)], n, D, (us (us s 1214 r29) 1213 r32), p, c)) rfl ?_
        exact K36 0  (by omega) (by unfold oR; rw [← hkk, ← z1]; first | rw [if_pos (by omega)] | rw [if_neg (by omega)]) (trivial)
      · show tt Zi d 38 (132, [some (.inr (.inl 12)), some (.inl (min (s 1208) (s 1209))), some (.inl (max (s 1208) (s 1209))), some (.inl j5), some (.inl r10)], [.inr (.inl 12)], n, D, (us (us s 1214 r29) 1213 r32), p, c) _
        refine tt_k 2 (S' := (136, [some (.inr (.inl 12)), some (.inl (min (s 1208) (s 1209))), some (.inl (max (s 1208) (s 1209))), some (.inl j5), some (.inl r10)], [.inl r32, .inr (.inl 12)], n, D, (us (us s 1214 r29) 1213 r32), p, c)) rfl ?_
        refine tz_ne (x := r32) rfl rfl (by omega) (fun h41 => ?_) (fun h41 => ?_)
        · show tt Zi d 38 (157, [some (.inr (.inl 12)), some (.inl (min (s 1208) (s 1209))), some (.inl (max (s 1208) (s 1209))), some (.inl j5), some (.inl r10)], [.inr (.inl 12)], n, D, (us (us s 1214 r29) 1213 r32), p, c) _
          refine tt_k 1 (S' := (158, [some (.inr (.inl 12)), some (.inl (min (s 1208) (s 1209))), some (.inl (max (s 1208) (s 1209))), some (.inl j5), some (.inl r10)], [.inl 0, .inr (.inl 12)], n, D, (us (us s 1214 r29) 1213 r32), p, c)) rfl ?_
          exact K36 0  (by omega) (by unfold oR; rw [← hkk, ← z1]; first | rw [if_pos (by omega)] | rw [if_neg (by omega)]) (trivial)
        · show tt Zi d 38 (139, [some (.inr (.inl 12)), some (.inl (min (s 1208) (s 1209))), some (.inl (max (s 1208) (s 1209))), some (.inl j5), some (.inl r10)], [.inr (.inl 12)], n, D, (us (us s 1214 r29) 1213 r32), p, c) _
          refine tt_k 4 (S' := (147, [some (.inr (.inl 12)), some (.inl (min (s 1208) (s 1209))), some (.inl (max (s 1208) (s 1209))), some (.inl j5), some (.inl r10)], [.inl (s 1211), .inr (.inl 9), .inr (.inl 12)], n, D, (us (us s 1214 r29) 1213 r32), p, c)) rfl ?_
          refine tt_cl (by omega) rfl (e_leansLow (Zi := Zi) (q := q) (n := n) (D := D) (s := (us (us s 1214 r29) 1213 r32)) (p := p) (c := c) (by omega) hz (by omega) hD (bS_us (bS_us hS (show 0 ≤ r29 ∧ r29 ≤ 65535 by omega)) (show 0 ≤ r32 ∧ r32 ≤ 30 by omega)) hC (wp_us (by decide) (wp_us (by decide) hW)) t Z M (s 1211) (by omega) hp0 hp2 hp3 hp4) ?_
          rintro _ _ ⟨r42, rfl, rfl, b43, k44⟩
          show tt Zi d 38 (150, [some (.inr (.inl 12)), some (.inl (min (s 1208) (s 1209))), some (.inl (max (s 1208) (s 1209))), some (.inl j5), some (.inl r10)], [.inl r42, .inr (.inl 12)], n, D, (us (us s 1214 r29) 1213 r32), p, c) _
          replace k44 : r42 = 1 ↔ 2 * M 37 (s 1211).toNat ≤ -(M 39 (s 1211).toNat) := k44
          refine tz_eq (x := r42) rfl rfl (by omega) (fun h45 => ?_) (fun h45 => ?_)
          · show tt Zi d 38 (157, [some (.inr (.inl 12)), some (.inl (min (s 1208) (s 1209))), some (.inl (max (s 1208) (s 1209))), some (.inl j5), some (.inl r10)], [.inr (.inl 12)], n, D, (us (us s 1214 r29) 1213 r32), p, c) _
            refine tt_k 1 (S' := (158, [some (.inr (.inl 12)), some (.inl (min (s 1208) (s 1209))), some (.inl (max (s 1208) (s 1209))), some (.inl j5), some (.inl r10)], [.inl 0, .inr (.inl 12)], n, D, (us (us s 1214 r29) 1213 r32), p, c)) rfl ?_
            exact K36 0  (by omega) (by unfold oR; rw [← hkk, ← z1]; first | rw [if_pos (by omega)] | rw [if_neg (by omega)]) (trivial)
          · show tt Zi d 38 (153, [some (.inr (.inl 12)), some (.inl (min (s 1208) (s 1209))), some (.inl (max (s 1208) (s 1209))), some (.inl j5), some (.inl r10)], [.inr (.inl 12)], n, D, (us (us s 1214 r29) 1213 r32), p, c) _
            refine tt_k 2 (S' := (158, [some (.inr (.inl 12)), some (.inl (min (s 1208) (s 1209))), some (.inl (max (s 1208) (s 1209))), some (.inl j5), some (.inl r10)], [.inl 1, .inr (.inl 12)], n, D, (us (us s 1214 r29) 1213 r32), p, c)) rfl ?_
            exact K36 1  (by omega) (by unfold oR; rw [← hkk, ← z1]; first | rw [if_pos (by omega)] | rw [if_neg (by omega)]) (trivial)
    refine tz_eq (x := (s 1215)) rfl rfl (by omega) (fun h46 => ?_) (fun h46 => ?_)
    · show tt Zi d 38 (95, [some (.inr (.inl 12)), some (.inl (min (s 1208) (s 1209))), some (.inl (max (s 1208) (s 1209))), some (.inl j5), some (.inl r10)], [.inr (.inl 8), .inr (.inl 12)], n, D, s, p, c) _
      refine tt_k 3 (S' := (99, [some (.inr (.inl 12)), some (.inl (min (s 1208) (s 1209))), some (.inl (max (s 1208) (s 1209))), some (.inl j5), some (.inl r10)], [.inl (j5 + r10), .inr (.inl 8), .inr (.inl 12)], n, D, s, p, c)) rfl ?_
      exact K15 (j5 + r10)  (by omega) (by first | rw [if_pos (by omega)] | rw [if_neg (by omega)]) (trivial)
    · show tt Zi d 38 (88, [some (.inr (.inl 12)), some (.inl (min (s 1208) (s 1209))), some (.inl (max (s 1208) (s 1209))), some (.inl j5), some (.inl r10)], [.inr (.inl 8), .inr (.inl 12)], n, D, s, p, c) _
      refine tt_k 4 (S' := (99, [some (.inr (.inl 12)), some (.inl (min (s 1208) (s 1209))), some (.inl (max (s 1208) (s 1209))), some (.inl j5), some (.inl r10)], [.inl (j5 - r10), .inr (.inl 8), .inr (.inl 12)], n, D, s, p, c)) rfl ?_
      exact K15 (j5 - r10)  (by omega) (by first | rw [if_pos (by omega)] | rw [if_neg (by omega)]) (trivial)
  refine tb_lt (x := (s 1210)) (y := (max (s 1208) (s 1209))) rfl rfl (by omega) (fun h47 => ?_) (fun h47 => ?_)
  · show tt Zi d 38 (36, [some (.inr (.inl 12)), some (.inl (min (s 1208) (s 1209))), some (.inl (max (s 1208) (s 1209))), none, none], [], n, D, s, p, c) _
    refine tt_k 3 (S' := (41, [some (.inr (.inl 12)), some (.inl (min (s 1208) (s 1209))), some (.inl (max (s 1208) (s 1209))), none, none], [.inl (min (s 1208) (s 1209)), .inl (s 1210)], n, D, s, p, c)) rfl ?_
    refine tb_gt (x := (s 1210)) (y := (min (s 1208) (s 1209))) rfl rfl (by omega) (fun h48 => ?_) (fun h48 => ?_)
    · show tt Zi d 38 (48, [some (.inr (.inl 12)), some (.inl (min (s 1208) (s 1209))), some (.inl (max (s 1208) (s 1209))), none, none], [], n, D, s, p, c) _
      refine tt_k 8 (S' := (62, [some (.inr (.inl 12)), some (.inl (min (s 1208) (s 1209))), some (.inl (max (s 1208) (s 1209))), none, none], [.inl ((((s 1208) + (s 1209)) - (s 1210)))], n, D, s, p, c)) rfl ?_
      exact K6 ((((s 1208) + (s 1209)) - (s 1210)))  (by omega) (by unfold fP; (repeat' split) <;> omega) (trivial)
    · show tt Zi d 38 (44, [some (.inr (.inl 12)), some (.inl (min (s 1208) (s 1209))), some (.inl (max (s 1208) (s 1209))), none, none], [], n, D, s, p, c) _
      refine tt_k 2 (S' := (62, [some (.inr (.inl 12)), some (.inl (min (s 1208) (s 1209))), some (.inl (max (s 1208) (s 1209))), none, none], [.inl (max (s 1208) (s 1209))], n, D, s, p, c)) rfl ?_
      exact K6 (max (s 1208) (s 1209))  (by omega) (by unfold fP; (repeat' split) <;> omega) (trivial)
  · show tt Zi d 38 (32, [some (.inr (.inl 12)), some (.inl (min (s 1208) (s 1209))), some (.inl (max (s 1208) (s 1209))), none, none], [], n, D, s, p, c) _
    refine tt_k 2 (S' := (62, [some (.inr (.inl 12)), some (.inl (min (s 1208) (s 1209))), some (.inl (max (s 1208) (s 1209))), none, none], [.inl (min (s 1208) (s 1209))], n, D, s, p, c)) rfl ?_
    exact K6 (min (s 1208) (s 1209))  (by omega) (by unfold fP; (repeat' split) <;> omega) (trivial)
set_option maxRecDepth 100000 in
set_option maxHeartbeats 4000000 in
theorem e_errorAt {g : Nat → Int} {Zi : Nat → Option (Nat × (Nat → Int))} {d n q : Nat} {D : Nat → Nat × Nat} {s : Nat → Int} {p : Nat → Nat} {c : Nat → Nat → Int} (hd : 1 ≤ d) (hz : zk Zi) (hq : q + 2 ≤ 400000) (hD : wd n p) (hS : bS s) (hC : bC D c) (hW : wp q g n D p s) (Z : Nat → Int) (v : Int) (x : Int) (b_x : 0 ≤ x ∧ x ≤ 63) (hp0 : s 1207 + x < (ln D (p 1205) : Int)) (hp1 : zq Z (s 800) (s 801) (s 802) (s 803) (s 804) (s 805) (s 806) (s 807) (s 808) (s 809)) (hp2 : mv Z) (hp3 : c (p 1205) (s 1207 + x).toNat = v) (hp4 : (0 ≤ v ∧ v ≤ Z 3017) ∧ (0 ≤ s 1214 ∧ s 1214 ≤ Z 3017)) : tt Zi d 44 (0, [some (.inr (.inl 12)), some (.inl x), none], [], n, D, s, p, c) (fun R H => ∃ (r : Int), R = .inl (some (.inl r)) ∧ H = (n, D, s, p, c) ∧ (-65536 ≤ r ∧ r ≤ 65536) ∧ (r = eR Z (s 1214) (s 1215) v) ∧ (-(Z 3024 / 2) ≤ r ∧ r ≤ (Z 3024 - 1) / 2)) := by
  have b1 : ln D (p 1205) ≤ 12288 := (hW).s12.2.2
  have b2 : 0 ≤ (s 1206) ∧ (s 1206) ≤ 64 := hS 1206
  have b3 : 0 ≤ (s 1207) ∧ (s 1207) ≤ 12288 := hS 1207
  have hzq := hp1
  obtain ⟨z0, z1, z2, z3, z4, z5, z6, z7, z8, z9⟩ := hzq
  have mvx := mv_fx (s := Z) hp2
  refine tt_k 6 (S' := (10, [some (.inr (.inl 12)), some (.inl x), none], [.inl ((s 1207) + x), .inr (.inl (p 1205))], n, D, s, p, c)) rfl ?_
  refine tt_ilb (i := ((s 1207) + x)) (m := (ln D (p 1205))) (lo := 0) (hi := 65535) rfl ((hW).s12.1) (by omega) hC ((hW).s12.2.1) ?_
  intro v4 b5 hvv4
  show tt Zi d 44 (11, [some (.inr (.inl 12)), some (.inl x), none], [.inl v4], n, D, s, p, c) _
  have hvv : v4 = v := by rw [← hvv4]; exact hp3
  refine tt_k 8 (S' := (25, [some (.inr (.inl 12)), some (.inl x), some (.inl (v4 - (s 1214)))], [.inl (s 1215), .inr (.inl 8)], n, D, s, p, c)) rfl ?_
  have b6 : 0 ≤ (s 1215) ∧ (s 1215) ≤ 1 := hS 1215
  have K8 : ∀ (j7 : Int) , (-65535 ≤ j7 ∧ j7 ≤ 65535) → (j7 = (if s 1215 = 1 then s 1214 - v else v - s 1214)) → (True) → tt Zi d 44 (34, [some (.inr (.inl 12)), some (.inl x), some (.inl (v4 - (s 1214)))], [.inl j7, .inr (.inl 8)], n, D, s, p, c) (fun R H => ∃ (r : Int), R = .inl (some (.inl r)) ∧ H = (n, D, s, p, c) ∧ (-65536 ≤ r ∧ r ≤ 65536) ∧ (r = eR Z (s 1214) (s 1215) v) ∧ (-(Z 3024 / 2) ≤ r ∧ r ≤ (Z 3024 - 1) / 2)) := by
    intro j7 b10 b11 hj9
    have b12 : 0 ≤ (s 800) ∧ (s 800) ≤ 65535 := hS 800
    have b13 : -2147483648 ≤ (s 801) ∧ (s 801) ≤ 2147483647 := hS 801
    have b14 : -2147483648 ≤ (s 802) ∧ (s 802) ≤ 2147483647 := hS 802
    have b15 : -2147483648 ≤ (s 803) ∧ (s 803) ≤ 2147483647 := hS 803
    have b16 : -2147483648 ≤ (s 804) ∧ (s 804) ≤ 2147483647 := hS 804
    have b17 : 0 ≤ (s 805) ∧ (s 805) ≤ 65535 := hS 805
    have b18 : 1 ≤ (s 806) ∧ (s 806) ≤ 511 := hS 806
    have b19 : 0 ≤ (s 807) ∧ (s 807) ≤ 65536 := hS 807
    have b20 : 0 ≤ (s 808) ∧ (s 808) ≤ 30 := hS 808
    have b21 : 0 ≤ (s 809) ∧ (s 809) ≤ 64 := hS 809
    refine tt_cl (by omega) rfl (e_errorOf (Zi := Zi) (q := q) (n := n) (D := D) (s := s) (p := p) (c := c) (by omega) hz (by omega) hD hS hC hW Z j7 (by omega) hp1 hp2 (show -(Z 3017) ≤ j7 ∧ j7 ≤ Z 3017 by omega)) ?_
    rintro _ _ ⟨r22, rfl, rfl, b23, k24, k25⟩
    show tt Zi d 44 (37, [some (.inr (.inl 12)), some (.inl x), some (.inl (v4 - (s 1214)))], [.inl r22], n, D, s, p, c) _
    replace k24 : r22 = fE Z j7 := k24
    replace k25 : -(Z 3024 / 2) ≤ r22 ∧ r22 ≤ (Z 3024 - 1) / 2 := k25
    exact tt_rti rfl rfl ⟨r22, rfl, rfl, by omega, by show r22 = eR Z (s 1214) (s 1215) v; rw [k24, b11]; rfl, by show -(Z 3024 / 2) ≤ r22 ∧ r22 ≤ (Z 3024 - 1) / 2; omega⟩
  refine tz_eq (x := (s 1215)) rfl rfl (by omega) (fun h26 => ?_) (fun h26 => ?_)
  · show tt Zi d 44 (33, [some (.inr (.inl 12)), some (.inl x), some (.inl (v4 - (s 1214)))], [.inr (.inl 8)], n, D, s, p, c) _
    refine tt_k 1 (S' := (34, [some (.inr (.inl 12)), some (.inl x), some (.inl (v4 - (s 1214)))], [.inl (v4 - (s 1214)), .inr (.inl 8)], n, D, s, p, c)) rfl ?_
    have b27 : 0 ≤ (s 1214) ∧ (s 1214) ≤ 65535 := hS 1214
    exact K8 (v4 - (s 1214))  (by omega) (by first | (rw [if_pos (by omega)]; omega) | (rw [if_neg (by omega)]; omega)) (trivial)
  · show tt Zi d 44 (28, [some (.inr (.inl 12)), some (.inl x), some (.inl (v4 - (s 1214)))], [.inr (.inl 8)], n, D, s, p, c) _
    refine tt_k 3 (S' := (34, [some (.inr (.inl 12)), some (.inl x), some (.inl (v4 - (s 1214)))], [.inl ((-(v4 - (s 1214)))), .inr (.inl 8)], n, D, s, p, c)) rfl ?_
    have b28 : 0 ≤ (s 1214) ∧ (s 1214) ≤ 65535 := hS 1214
    exact K8 ((-(v4 - (s 1214))))  (by omega) (by first | (rw [if_pos (by omega)]; omega) | (rw [if_neg (by omega)]; omega)) (trivial)
set_option maxRecDepth 100000 in
set_option maxHeartbeats 4000000 in
theorem e_takeSample {g : Nat → Int} {Zi : Nat → Option (Nat × (Nat → Int))} {d n q : Nat} {D : Nat → Nat × Nat} {s : Nat → Int} {p : Nat → Nat} {c : Nat → Nat → Int} (hd : 2 ≤ d) (hz : zk Zi) (hq : q + 4 ≤ 400000) (hD : wd n p) (hS : bS s) (hC : bC D c) (hW : wp q g n D p s) (t : Int) (Z : Nat → Int) (M : MT) (x : Int) (e : Int) (b_x : 0 ≤ x ∧ x ≤ 63) (b_e : -65536 ≤ e ∧ e ≤ 65536) (hp0 : mrc M (c (p 901))) (hp1 : zq Z (s 800) (s 801) (s 802) (s 803) (s 804) (s 805) (s 806) (s 807) (s 808) (s 809)) (hp2 : mv Z) (hp3 : pl Z t M) (hp4 : 0 ≤ t ∧ t ≤ 4095) (hp5 : 0 ≤ s 1214 ∧ s 1214 ≤ Z 3017) : tt Zi d 50 (0, [some (.inr (.inl 12)), some (.inl x), some (.inl e)], [], n, D, s, p, c) (fun R H => ∃ (c' : Nat → Nat → Int), R = .inl none ∧ H = (n, D, s, p, c') ∧ bC D c' ∧ fk p c n p c' [901, 1204] ∧ (c' (p 1204) = ua (c (p 1204)) (x + 1).toNat (rR Z (s 1214) (s 1215) e)) ∧ (mrc (mLrn Z M (s 1211).toNat e) (c' (p 901)))) := by
  have hzq := hp1
  obtain ⟨z0, z1, z2, z3, z4, z5, z6, z7, z8, z9⟩ := hzq
  have mvx := mv_fx (s := Z) hp2
  have b1 : 0 ≤ (s 1211) ∧ (s 1211) ≤ 366 := hS 1211
  refine tt_k 11 (S' := (19, [some (.inr (.inl 12)), some (.inl x), some (.inl e)], [.inl (s 1215), .inl (s 1214), .inr (.inl 8), .inl (x + 1), .inr (.inl (p 1204))], n, D, s, p, c)) rfl ?_
  have b2 : 0 ≤ (s 1215) ∧ (s 1215) ≤ 1 := hS 1215
  have K4 : ∀ (j3 : Int) , (-65536 ≤ j3 ∧ j3 ≤ 65536) → (j3 = (if s 1215 = 1 then -e else e)) → (True) → tt Zi d 50 (28, [some (.inr (.inl 12)), some (.inl x), some (.inl e)], [.inl j3, .inl (s 1214), .inr (.inl 8), .inl (x + 1), .inr (.inl (p 1204))], n, D, s, p, c) (fun R H => ∃ (c' : Nat → Nat → Int), R = .inl none ∧ H = (n, D, s, p, c') ∧ bC D c' ∧ fk p c n p c' [901, 1204] ∧ (c' (p 1204) = ua (c (p 1204)) (x + 1).toNat (rR Z (s 1214) (s 1215) e)) ∧ (mrc (mLrn Z M (s 1211).toNat e) (c' (p 901)))) := by
    intro j3 b6 b7 hj5
    have b8 : 0 ≤ (s 1214) ∧ (s 1214) ≤ 65535 := hS 1214
    have b9 : 0 ≤ (s 800) ∧ (s 800) ≤ 65535 := hS 800
    have b10 : -2147483648 ≤ (s 801) ∧ (s 801) ≤ 2147483647 := hS 801
    have b11 : -2147483648 ≤ (s 802) ∧ (s 802) ≤ 2147483647 := hS 802
    have b12 : -2147483648 ≤ (s 803) ∧ (s 803) ≤ 2147483647 := hS 803
    have b13 : -2147483648 ≤ (s 804) ∧ (s 804) ≤ 2147483647 := hS 804
    have b14 : 0 ≤ (s 805) ∧ (s 805) ≤ 65535 := hS 805
    have b15 : 1 ≤ (s 806) ∧ (s 806) ≤ 511 := hS 806
    have b16 : 0 ≤ (s 807) ∧ (s 807) ≤ 65536 := hS 807
    have b17 : 0 ≤ (s 808) ∧ (s 808) ≤ 30 := hS 808
    have b18 : 0 ≤ (s 809) ∧ (s 809) ≤ 64 := hS 809
    refine tt_cl (by omega) rfl (e_rebuilt (Zi := Zi) (q := q) (n := n) (D := D) (s := s) (p := p) (c := c) (by omega) hz (by omega) hD hS hC hW Z (s 1214) j3 (by omega) (by omega) hp1 hp2) ?_
    rintro _ _ ⟨r19, rfl, rfl, b20, k21⟩
    show tt Zi d 50 (31, [some (.inr (.inl 12)), some (.inl x), some (.inl e)], [.inl r19, .inl (x + 1), .inr (.inl (p 1204))], n, D, s, p, c) _
    replace k21 : r19 = fR Z (s 1214) j3 := k21
    have hrb : r19 = rR Z (s 1214) (s 1215) e := by rw [k21]; unfold rR; rw [b7]
    refine tt_isb (i := (x + 1)) (m := 66) (lo := 0) (hi := 65535) (x := r19) rfl ((sw_arr (hW).a12 rfl rfl).2) (by omega) hC ((sw_12 (hW).a12).2) (by omega) ?_
    intro c22 hC22 ec22
    show tt Zi d 50 (32, [some (.inr (.inl 12)), some (.inl x), some (.inl e)], [], n, D, s, p, c22) _
    have FK23 : fk p c n p c22 [901, 1204] := fk_st (k := 1204) (fk_rf hD) ec22 (by decide) rfl
    have hx24 : mrc M (c22 (p 901)) := by rw [ec22, uc_ne (show (p 901) ≠ (p 1204) from FK23.1.2 901 (by decide) 1204 (by decide) (by decide))]; exact hp0
    refine tt_k 7 (S' := (45, [some (.inr (.inl 12)), some (.inl x), some (.inl e)], [.inr (.inl 8), .inl e, .inl (s 1211), .inr (.inl 9)], n, D, s, p, c22)) rfl ?_
    refine tt_cl (by omega) rfl (e_learnSample (Zi := Zi) (q := q) (n := n) (D := D) (s := s) (p := p) (c := c22) (by omega) hz (by omega) FK23.1 hS hC22 hW t Z M (s 1211) e (by omega) (by omega) hx24 hp1 hp2 hp3 hp4) ?_
    rintro _ _ ⟨c25, rfl, rfl, hC25, kf26, k27⟩
    have FK28 : fk p c n p c25 [901, 1204] := fk_tr FK23 kf26 (by decide)
    show tt Zi d 50 (48, [some (.inr (.inl 12)), some (.inl x), some (.inl e)], [], n, D, s, p, c25) _
    exact tt_rtv rfl rfl ⟨c25, rfl, rfl, hC25, FK28, by show c25 (p 1204) = ua (c (p 1204)) (x + 1).toNat (rR Z (s 1214) (s 1215) e); rw [fk_k (k := 1204) kf26 (by decide), ec22, uc_eq, hrb], k27⟩
  refine tz_eq (x := (s 1215)) rfl rfl (by omega) (fun h29 => ?_) (fun h29 => ?_)
  · show tt Zi d 50 (27, [some (.inr (.inl 12)), some (.inl x), some (.inl e)], [.inl (s 1214), .inr (.inl 8), .inl (x + 1), .inr (.inl (p 1204))], n, D, s, p, c) _
    refine tt_k 1 (S' := (28, [some (.inr (.inl 12)), some (.inl x), some (.inl e)], [.inl e, .inl (s 1214), .inr (.inl 8), .inl (x + 1), .inr (.inl (p 1204))], n, D, s, p, c)) rfl ?_
    exact K4 e  (by omega) (by first | rw [if_pos (by omega)] | rw [if_neg (by omega)]) (trivial)
  · show tt Zi d 50 (22, [some (.inr (.inl 12)), some (.inl x), some (.inl e)], [.inl (s 1214), .inr (.inl 8), .inl (x + 1), .inr (.inl (p 1204))], n, D, s, p, c) _
    refine tt_k 3 (S' := (28, [some (.inr (.inl 12)), some (.inl x), some (.inl e)], [.inl (-e), .inl (s 1214), .inr (.inl 8), .inl (x + 1), .inr (.inl (p 1204))], n, D, s, p, c)) rfl ?_
    exact K4 (-e)  (by omega) (by first | rw [if_pos (by omega)] | rw [if_neg (by omega)]) (trivial)
set_option maxRecDepth 100000 in
set_option maxHeartbeats 4000000 in
theorem e_tellSample {g : Nat → Int} {Zi : Nat → Option (Nat × (Nat → Int))} {d n q : Nat} {D : Nat → Nat × Nat} {s : Nat → Int} {p : Nat → Nat} {c : Nat → Nat → Int} (hd : 4 ≤ d) (hz : zk Zi) (hq : q + 8 ≤ 400000) (hD : wd n p) (hS : bS s) (hC : bC D c) (hW : wp q g n D p s) (t : Int) (Z : Nat → Int) (W : WT) (M : MT) (v : Int) (x : Int) (b_x : 0 ≤ x ∧ x ≤ 63) (hp0 : wo s) (hp1 : 7 * s 401 - s 1602 + 300 ≤ 1834990) (hp2 : s 1207 + x < (ln D (p 1205) : Int)) (hp3 : mrc M (c (p 901))) (hp4 : zq Z (s 800) (s 801) (s 802) (s 803) (s 804) (s 805) (s 806) (s 807) (s 808) (s 809)) (hp5 : mv Z) (hp6 : pl Z t M) (hp7 : 0 ≤ t ∧ t ≤ 4095) (hp8 : c (p 1205) (s 1207 + x).toNat = v) (hp9 : (0 ≤ v ∧ v ≤ Z 3017) ∧ (0 ≤ s 1214 ∧ s 1214 ≤ Z 3017)) (hp10 : wrl W (s 401) (s 1601) (s 1602) (c (p 400))) (hp11 : 0 ≤ s 1213 ∧ s 1213 ≤ 30) : tt Zi d 43 (0, [some (.inr (.inl 12)), some (.inl x), none, none], [], n, D, s, p, c) (fun R H => ∃ (n' : Nat) (D' : Nat → Nat × Nat) (s' : Nat → Int) (p' : Nat → Nat) (c' : Nat → Nat → Int), R = .inl none ∧ H = (n', D', s', p', c') ∧ bS s' ∧ bC D' c' ∧ wp q g n' D' p' s' ∧ fr s s' [401, 1601, 1602] ∧ frp p p' [400] ∧ ext n D n' D' ∧ fk p c n' p' c' [400, 901, 1204] ∧ (wo s') ∧ (7 * s' 401 - s' 1602 ≤ 7 * s 401 - s 1602 + 94) ∧ (wrl (wNum W (fM (eR Z (s 1214) (s 1215) v) (s 1216)) (s 1213) (Z 3026 - Z 3025 - 1) (Z 3025)) (s' 401) (s' 1601) (s' 1602) (c' (p' 400))) ∧ (mrc (mLrn Z M (s 1211).toNat (eR Z (s 1214) (s 1215) v)) (c' (p' 901))) ∧ (c' (p' 1204) = ua (c (p 1204)) (x + 1).toNat (rR Z (s 1214) (s 1215) (eR Z (s 1214) (s 1215) v)))) := by
  have b1 : ln D (p 1205) ≤ 12288 := (hW).s12.2.2
  have b2 : 0 ≤ (s 1206) ∧ (s 1206) ≤ 64 := hS 1206
  have b3 : 0 ≤ (s 1207) ∧ (s 1207) ≤ 12288 := hS 1207
  have hzq := hp4
  obtain ⟨z0, z1, z2, z3, z4, z5, z6, z7, z8, z9⟩ := hzq
  have mvx := mv_fx (s := Z) hp5
  have b4 : 0 ≤ (s 1214) ∧ (s 1214) ≤ 65535 := hS 1214
  have b5 : 0 ≤ (s 1215) ∧ (s 1215) ≤ 1 := hS 1215
  have b6 : 0 ≤ (s 1211) ∧ (s 1211) ≤ 366 := hS 1211
  have b7 : 0 ≤ (s 1216) ∧ (s 1216) ≤ 1 := hS 1216
  have b8 : 0 ≤ (s 1213) ∧ (s 1213) ≤ 30 := hS 1213
  refine tt_k 2 (S' := (2, [some (.inr (.inl 12)), some (.inl x), none, none], [.inl x, .inr (.inl 12)], n, D, s, p, c)) rfl ?_
  have b9 : 0 ≤ (s 800) ∧ (s 800) ≤ 65535 := hS 800
  have b10 : -2147483648 ≤ (s 801) ∧ (s 801) ≤ 2147483647 := hS 801
  have b11 : -2147483648 ≤ (s 802) ∧ (s 802) ≤ 2147483647 := hS 802
  have b12 : -2147483648 ≤ (s 803) ∧ (s 803) ≤ 2147483647 := hS 803
  have b13 : -2147483648 ≤ (s 804) ∧ (s 804) ≤ 2147483647 := hS 804
  have b14 : 0 ≤ (s 805) ∧ (s 805) ≤ 65535 := hS 805
  have b15 : 1 ≤ (s 806) ∧ (s 806) ≤ 511 := hS 806
  have b16 : 0 ≤ (s 807) ∧ (s 807) ≤ 65536 := hS 807
  have b17 : 0 ≤ (s 808) ∧ (s 808) ≤ 30 := hS 808
  have b18 : 0 ≤ (s 809) ∧ (s 809) ≤ 64 := hS 809
  refine tt_cl (by omega) rfl (e_errorAt (Zi := Zi) (q := q) (n := n) (D := D) (s := s) (p := p) (c := c) (by omega) hz (by omega) hD hS hC hW Z v x (by omega) (show (s 1207) + x < (ln D (p 1205) : Int) by omega) hp4 hp5 hp8 (show (0 ≤ v ∧ v ≤ Z 3017) ∧ (0 ≤ (s 1214) ∧ (s 1214) ≤ Z 3017) by omega)) ?_
  rintro _ _ ⟨r19, rfl, rfl, b20, k21, k22⟩
  show tt Zi d 43 (5, [some (.inr (.inl 12)), some (.inl x), none, none], [.inl r19], n, D, s, p, c) _
  replace k21 : r19 = eR Z ((s 1214)) ((s 1215)) v := k21
  replace k22 : -(Z 3024 / 2) ≤ r19 ∧ r19 ≤ (Z 3024 - 1) / 2 := k22
  refine tt_k 2 (S' := (7, [some (.inr (.inl 12)), some (.inl x), some (.inl r19), none], [.inl r19], n, D, s, p, c)) rfl ?_
  have K24 : ∀ (j23 : Int) , (0 ≤ j23 ∧ j23 ≤ 131072) → ((0 ≤ r19 ∧ j23 = (2 * r19)) ∨ (r19 < 0 ∧ j23 = (((-2) * r19) - 1))) → tt Zi d 43 (22, [some (.inr (.inl 12)), some (.inl x), some (.inl r19), none], [.inl j23], n, D, s, p, c) (fun R H => ∃ (n' : Nat) (D' : Nat → Nat × Nat) (s' : Nat → Int) (p' : Nat → Nat) (c' : Nat → Nat → Int), R = .inl none ∧ H = (n', D', s', p', c') ∧ bS s' ∧ bC D' c' ∧ wp q g n' D' p' s' ∧ fr s s' [401, 1601, 1602] ∧ frp p p' [400] ∧ ext n D n' D' ∧ fk p c n' p' c' [400, 901, 1204] ∧ (wo s') ∧ (7 * s' 401 - s' 1602 ≤ 7 * s 401 - s 1602 + 94) ∧ (wrl (wNum W (fM (eR Z (s 1214) (s 1215) v) (s 1216)) (s 1213) (Z 3026 - Z 3025 - 1) (Z 3025)) (s' 401) (s' 1601) (s' 1602) (c' (p' 400))) ∧ (mrc (mLrn Z M (s 1211).toNat (eR Z (s 1214) (s 1215) v)) (c' (p' 901))) ∧ (c' (p' 1204) = ua (c (p 1204)) (x + 1).toNat (rR Z (s 1214) (s 1215) (eR Z (s 1214) (s 1215) v)))) := by
    intro j23 b26 hj25
    refine tt_k 3 (S' := (27, [some (.inr (.inl 12)), some (.inl x), some (.inl r19), some (.inl j23)], [.inl (s 1216)], n, D, s, p, c)) rfl ?_
    have K28 : ∀ (j27 : Int) , (-1 ≤ j27 ∧ j27 ≤ 131073) → (j27 = fM r19 (s 1216)) → (0 ≤ j27 ∧ j27 ≤ 65536) → (True) → tt Zi d 43 (44, [some (.inr (.inl 12)), some (.inl x), some (.inl r19), some (.inl j27)], [], n, D, s, p, c) (fun R H => ∃ (n' : Nat) (D' : Nat → Nat × Nat) (s' : Nat → Int) (p' : Nat → Nat) (c' : Nat → Nat → Int), R = .inl none ∧ H = (n', D', s', p', c') ∧ bS s' ∧ bC D' c' ∧ wp q g n' D' p' s' ∧ fr s s' [401, 1601, 1602] ∧ frp p p' [400] ∧ ext n D n' D' ∧ fk p c n' p' c' [400, 901, 1204] ∧ (wo s') ∧ (7 * s' 401 - s' 1602 ≤ 7 * s 401 - s 1602 + 94) ∧ (wrl (wNum W (fM (eR Z (s 1214) (s 1215) v) (s 1216)) (s 1213) (Z 3026 - Z 3025 - 1) (Z 3025)) (s' 401) (s' 1601) (s' 1602) (c' (p' 400))) ∧ (mrc (mLrn Z M (s 1211).toNat (eR Z (s 1214) (s 1215) v)) (c' (p' 901))) ∧ (c' (p' 1204) = ua (c (p 1204)) (x + 1).toNat (rR Z (s 1214) (s 1215) (eR Z (s 1214) (s 1215) v)))) := by
      intro j27 b30 b31 b32 hj29
      refine tt_k 14 (S' := (70, [some (.inr (.inl 12)), some (.inl x), some (.inl r19), some (.inl j27)], [.inl ((((s 809) - (s 808)) - 1)), .inl (s 1213), .inl j27, .inr (.inl 16)], n, D, s, p, c)) rfl ?_
      refine tt_k 3 (S' := (77, [some (.inr (.inl 12)), some (.inl x), some (.inl r19), some (.inl j27)], [.inl (s 808), .inl ((((s 809) - (s 808)) - 1)), .inl (s 1213), .inl j27, .inr (.inl 16)], n, D, s, p, c)) rfl ?_
      have b33 : 0 ≤ (s 401) ∧ (s 401) ≤ 262144 := hS 401
      have b34 : 1 ≤ (s 1602) ∧ (s 1602) ≤ 8 := hS 1602
      have b35 : 0 ≤ (s 1601) ∧ (s 1601) ≤ 255 := hS 1601
      refine tt_cl (by omega) rfl (e_writeNumber (Zi := Zi) (q := q) (n := n) (D := D) (s := s) (p := p) (c := c) (by omega) hz (by omega) hD hS hC hW W j27 (s 1213) ((((s 809) - (s 808)) - 1)) (s 808) (by omega) (by omega) (by omega) (by omega) hp0 (show 7 * (s 401) - (s 1602) + 200 ≤ 1834990 by omega) hp10) ?_
      rintro _ _ ⟨n36, D37, s38, p39, c40, rfl, rfl, hS38, hC40, hW41, f42, g43, xe44, kf45, k46, k47, k48⟩
      have FK49 : fk p c n36 p39 c40 [400, 901, 1204] := fk_tr (fk_rf hD) kf45 (by decide)
      show tt Zi d 43 (80, [some (.inr (.inl 12)), some (.inl x), some (.inl r19), some (.inl j27)], [], n36, D37, s38, p39, c40) _
      replace k47 : 7 * (s38 401) - (s38 1602) ≤ 7 * (s 401) - (s 1602) + 94 := k47
      have b50 : 0 ≤ (s38 401) ∧ (s38 401) ≤ 262144 := hS38 401
      have b51 : 1 ≤ (s38 1602) ∧ (s38 1602) ≤ 8 := hS38 1602
      have b52 : 0 ≤ (s38 1601) ∧ (s38 1601) ≤ 255 := hS38 1601
      have e53 : s38 1214 = (s 1214) := (f42 1214 (by decide))
      have b54 : 0 ≤ (s38 1214) ∧ (s38 1214) ≤ 65535 := hS38 1214
      have e55 : s38 1215 = (s 1215) := (f42 1215 (by decide))
      have b56 : 0 ≤ (s38 1215) ∧ (s38 1215) ≤ 1 := hS38 1215
      have e57 : s38 1211 = (s 1211) := (f42 1211 (by decide))
      have b58 : 0 ≤ (s38 1211) ∧ (s38 1211) ≤ 366 := hS38 1211
      have hx59 : mrc M (c40 (p39 901)) := by rw [fk_k (k := 901) kf45 (by decide)]; exact hp3
      have hx60 : zq Z (s38 800) (s38 801) (s38 802) (s38 803) (s38 804) (s38 805) (s38 806) (s38 807) (s38 808) (s38 809) := by rw [f42 800 (by decide), f42 801 (by decide), f42 802 (by decide), f42 803 (by decide), f42 804 (by decide), f42 805 (by decide), f42 806 (by decide), f42 807 (by decide), f42 808 (by decide), f42 809 (by decide)]; exact hp4
      refine tt_k 3 (S' := (83, [some (.inr (.inl 12)), some (.inl x), some (.inl r19), some (.inl j27)], [.inl r19, .inl x, .inr (.inl 12)], n36, D37, s38, p39, c40)) rfl ?_
      have b61 : 0 ≤ (s38 800) ∧ (s38 800) ≤ 65535 := hS38 800
      have b62 : -2147483648 ≤ (s38 801) ∧ (s38 801) ≤ 2147483647 := hS38 801
      have b63 : -2147483648 ≤ (s38 802) ∧ (s38 802) ≤ 2147483647 := hS38 802
      have b64 : -2147483648 ≤ (s38 803) ∧ (s38 803) ≤ 2147483647 := hS38 803
      have b65 : -2147483648 ≤ (s38 804) ∧ (s38 804) ≤ 2147483647 := hS38 804
      have b66 : 0 ≤ (s38 805) ∧ (s38 805) ≤ 65535 := hS38 805
      have b67 : 1 ≤ (s38 806) ∧ (s38 806) ≤ 511 := hS38 806
      have b68 : 0 ≤ (s38 807) ∧ (s38 807) ≤ 65536 := hS38 807
      have b69 : 0 ≤ (s38 808) ∧ (s38 808) ≤ 30 := hS38 808
      have b70 : 0 ≤ (s38 809) ∧ (s38 809) ≤ 64 := hS38 809
      refine tt_cl (by omega) rfl (e_takeSample (Zi := Zi) (q := q) (n := n36) (D := D37) (s := s38) (p := p39) (c := c40) (by omega) hz (by omega) FK49.1 hS38 hC40 hW41 t Z M x r19 (by omega) (by omega) hx59 hx60 hp5 hp6 hp7 (show 0 ≤ (s38 1214) ∧ (s38 1214) ≤ Z 3017 by omega)) ?_
      rintro _ _ ⟨c71, rfl, rfl, hC71, kf72, k73, k74⟩
      have FK75 : fk p c n36 p39 c71 [400, 901, 1204] := fk_tr FK49 kf72 (by decide)
      show tt Zi d 43 (86, [some (.inr (.inl 12)), some (.inl x), some (.inl r19), some (.inl j27)], [], n36, D37, s38, p39, c71) _
      have hx76 : wrl (wNum W j27 (s 1213) ((((s 809) - (s 808)) - 1)) (s 808)) (s38 401) (s38 1601) (s38 1602) (c71 (p39 400)) := by rw [fk_k (k := 400) kf72 (by decide)]; exact k48
      exact tt_rtv rfl rfl ⟨n36, D37, s38, p39, c71, rfl, rfl, hS38, hC71, hW41, (fr_tr fr_rf f42 (by decide)), (frp_tr frp_rf g43 (by decide)), (ext_tr ext_rf xe44), FK75, k46, by show 7 * (s38 401) - (s38 1602) ≤ 7 * s 401 - s 1602 + 94; omega, by show wrl (wNum W (fM (eR Z (s 1214) (s 1215) v) (s 1216)) (s 1213) (Z 3026 - Z 3025 - 1) (Z 3025)) ((s38 401)) ((s38 1601)) ((s38 1602)) (c71 (p39 400)); have h := hx76; rw [b31, k21] at h; simp only [z8, z9] at h; exact h, by show mrc (mLrn Z M (s 1211).toNat (eR Z (s 1214) (s 1215) v)) (c71 (p39 901)); have h := k74; rw [f42 1211 (by decide), k21] at h; exact h, by show c71 (p39 1204) = ua (c (p 1204)) (x + 1).toNat (rR Z (s 1214) (s 1215) (eR Z (s 1214) (s 1215) v)); rw [k73, fk_k (k := 1204) kf45 (by decide), f42 1214 (by decide), f42 1215 (by decide), k21]⟩
    refine tz_eq (x := (s 1216)) rfl rfl (by omega) (fun h77 => ?_) (fun h77 => ?_)
    · show tt Zi d 43 (44, [some (.inr (.inl 12)), some (.inl x), some (.inl r19), some (.inl j23)], [], n, D, s, p, c) _
      exact K28 j23  (by omega) (by unfold fM; (repeat' split) <;> omega) (by omega) (trivial)
    · show tt Zi d 43 (30, [some (.inr (.inl 12)), some (.inl x), some (.inl r19), some (.inl j23)], [], n, D, s, p, c) _
      refine tt_k 1 (S' := (31, [some (.inr (.inl 12)), some (.inl x), some (.inl r19), some (.inl j23)], [.inl r19], n, D, s, p, c)) rfl ?_
      have K79 : ∀ (j78 : Int) , (-1 ≤ j78 ∧ j78 ≤ 131073) → ((0 ≤ r19 ∧ j78 = (j23 + 1)) ∨ (r19 < 0 ∧ j78 = (j23 - 1))) → tt Zi d 43 (43, [some (.inr (.inl 12)), some (.inl x), some (.inl r19), some (.inl j23)], [.inl j78], n, D, s, p, c) (fun R H => ∃ (n' : Nat) (D' : Nat → Nat × Nat) (s' : Nat → Int) (p' : Nat → Nat) (c' : Nat → Nat → Int), R = .inl none ∧ H = (n', D', s', p', c') ∧ bS s' ∧ bC D' c' ∧ wp q g n' D' p' s' ∧ fr s s' [401, 1601, 1602] ∧ frp p p' [400] ∧ ext n D n' D' ∧ fk p c n' p' c' [400, 901, 1204] ∧ (wo s') ∧ (7 * s' 401 - s' 1602 ≤ 7 * s 401 - s 1602 + 94) ∧ (wrl (wNum W (fM (eR Z (s 1214) (s 1215) v) (s 1216)) (s 1213) (Z 3026 - Z 3025 - 1) (Z 3025)) (s' 401) (s' 1601) (s' 1602) (c' (p' 400))) ∧ (mrc (mLrn Z M (s 1211).toNat (eR Z (s 1214) (s 1215) v)) (c' (p' 901))) ∧ (c' (p' 1204) = ua (c (p 1204)) (x + 1).toNat (rR Z (s 1214) (s 1215) (eR Z (s 1214) (s 1215) v)))) := by
        intro j78 b81 hj80
        refine tt_k 1 (S' := (44, [some (.inr (.inl 12)), some (.inl x), some (.inl r19), some (.inl j78)], [], n, D, s, p, c)) rfl ?_
        exact K28 j78  (by omega) (by unfold fM; (repeat' split) <;> omega) (by omega) (trivial)
      refine tz_ge (x := r19) rfl rfl (by omega) (fun h82 => ?_) (fun h82 => ?_)
      · show tt Zi d 43 (40, [some (.inr (.inl 12)), some (.inl x), some (.inl r19), some (.inl j23)], [], n, D, s, p, c) _
        refine tt_k 3 (S' := (43, [some (.inr (.inl 12)), some (.inl x), some (.inl r19), some (.inl j23)], [.inl (j23 + 1)], n, D, s, p, c)) rfl ?_
        exact K79 (j23 + 1)  (by omega) (Or.inl ⟨h82, rfl⟩)
      · show tt Zi d 43 (34, [some (.inr (.inl 12)), some (.inl x), some (.inl r19), some (.inl j23)], [], n, D, s, p, c) _
        refine tt_k 4 (S' := (43, [some (.inr (.inl 12)), some (.inl x), some (.inl r19), some (.inl j23)], [.inl (j23 - 1)], n, D, s, p, c)) rfl ?_
        exact K79 (j23 - 1)  (by omega) (Or.inr (⟨h82, rfl⟩))
  refine tz_ge (x := r19) rfl rfl (by omega) (fun h83 => ?_) (fun h83 => ?_)
  · show tt Zi d 43 (19, [some (.inr (.inl 12)), some (.inl x), some (.inl r19), none], [], n, D, s, p, c) _
    refine tt_k 3 (S' := (22, [some (.inr (.inl 12)), some (.inl x), some (.inl r19), none], [.inl (2 * r19)], n, D, s, p, c)) rfl ?_
    exact K24 (2 * r19)  (by omega) (Or.inl ⟨h83, rfl⟩)
  · show tt Zi d 43 (10, [some (.inr (.inl 12)), some (.inl x), some (.inl r19), none], [], n, D, s, p, c) _
    refine tt_k 6 (S' := (22, [some (.inr (.inl 12)), some (.inl x), some (.inl r19), none], [.inl ((((-2) * r19) - 1))], n, D, s, p, c)) rfl ?_
    exact K24 ((((-2) * r19) - 1))  (by omega) (Or.inr (⟨h83, rfl⟩))
set_option maxRecDepth 100000 in
set_option maxHeartbeats 4000000 in
theorem e_aimStop {g : Nat → Int} {Zi : Nat → Option (Nat × (Nat → Int))} {d n q : Nat} {D : Nat → Nat × Nat} {s : Nat → Int} {p : Nat → Nat} {c : Nat → Nat → Int} (hd : 1 ≤ d) (hz : zk Zi) (hq : q + 2 ≤ 400000) (hD : wd n p) (hS : bS s) (hC : bC D c) (hW : wp q g n D p s) (t : Int) (Z : Nat → Int) (M : MT) (Y : YT) (x : Int) (b_x : 0 ≤ x ∧ x ≤ 63) (hp0 : hrl Y (c (p 1204)) (c (p 1203))) (hp1 : mrc M (c (p 901))) (hp2 : zq Z (s 800) (s 801) (s 802) (s 803) (s 804) (s 805) (s 806) (s 807) (s 808) (s 809)) (hp3 : mv Z) (hp4 : pl Z t M) (hp5 : 0 ≤ t ∧ t ≤ 4095) (hp6 : x = Y.2.2.1 ∧ x < Y.2.1 ∧ Y.2.1 ≤ 64 ∧ 0 ≤ Y.2.2.2) : tt Zi d 67 (0, [some (.inr (.inl 12)), some (.inl x)], [], n, D, s, p, c) (fun R H => ∃ (s' : Nat → Int), R = .inl none ∧ H = (n, D, s', p, c) ∧ bS s' ∧ wp q g n D p s' ∧ fr s s' [1209, 1211, 1212, 1213, 1214, 1215, 1216] ∧ (s' 1212 = sS Z (s 1208) (nB Y.1 x Y.2.2.2)) ∧ (s' 1211 = 365 + sS Z (s 1208) (nB Y.1 x Y.2.2.2)) ∧ (s' 1214 = gS Z (s 1208) (nB Y.1 x Y.2.2.2)) ∧ (s' 1215 = tS Z (s 1208) (nB Y.1 x Y.2.2.2)) ∧ (s' 1213 = kS M (sS Z (s 1208) (nB Y.1 x Y.2.2.2))) ∧ (s' 1216 = oS M (sS Z (s 1208) (nB Y.1 x Y.2.2.2)))) := by
  have hzq := hp2
  obtain ⟨z0, z1, z2, z3, z4, z5, z6, z7, z8, z9⟩ := hzq
  have mvx := mv_fx (s := Z) hp3
  have b1 : 0 ≤ (s 1208) ∧ (s 1208) ≤ 65535 := hS 1208
  refine tt_k 6 (S' := (8, [some (.inr (.inl 12)), some (.inl x)], [.inl (x + 1), .inr (.inl (p 1203)), .inr (.inl 12)], n, D, s, p, c)) rfl ?_
  refine tt_ilb (i := (x + 1)) (m := 66) (lo := 0) (hi := 65535) rfl ((sw_arr (hW).a12 rfl rfl).1) (by omega) hC ((sw_12 (hW).a12).1) ?_
  intro v2 b3 hvv2
  show tt Zi d 67 (9, [some (.inr (.inl 12)), some (.inl x)], [.inl v2, .inr (.inl 12)], n, D, s, p, c) _
  have hwb : v2 = (nB Y.1 x Y.2.2.2) := by rw [← hvv2]; exact hr_b hp0 (by omega) (by omega) (by omega)
  subst hwb
  show tt Zi d 67 (9, [some (.inr (.inl 12)), some (.inl x)], [.inl (nB Y.1 x Y.2.2.2), .inr (.inl 12)], n, D, s, p, c) _
  refine tt_k 7 (S' := (22, [some (.inr (.inl 12)), some (.inl x)], [.inl ((s 1208) - (nB Y.1 x Y.2.2.2)), .inr (.inl 12)], n, D, (us s 1209 (nB Y.1 x Y.2.2.2)), p, c)) rfl ?_
  refine tt_abs (k := 0) (x := ((s 1208) - (nB Y.1 x Y.2.2.2))) rfl rfl (Nat.le_of_ble_eq_true rfl) (by omega) ?_
  show tt Zi d 67 (25, [some (.inr (.inl 12)), some (.inl x)], [.inl ((if 0 ≤ ((s 1208) - (nB Y.1 x Y.2.2.2)) then ((s 1208) - (nB Y.1 x Y.2.2.2)) else -((s 1208) - (nB Y.1 x Y.2.2.2)))), .inr (.inl 12)], n, D, (us s 1209 (nB Y.1 x Y.2.2.2)), p, c) _
  refine tt_k 3 (S' := (32, [some (.inr (.inl 12)), some (.inl x)], [.inl (s 801), .inl ((if 0 ≤ ((s 1208) - (nB Y.1 x Y.2.2.2)) then ((s 1208) - (nB Y.1 x Y.2.2.2)) else -((s 1208) - (nB Y.1 x Y.2.2.2)))), .inr (.inl 12)], n, D, (us s 1209 (nB Y.1 x Y.2.2.2)), p, c)) rfl ?_
  have b4 : -2147483648 ≤ (s 801) ∧ (s 801) ≤ 2147483647 := hS 801
  have K6 : ∀ (j5 : Int) , (0 ≤ j5 ∧ j5 ≤ 1) → (j5 = sS Z (s 1208) (nB Y.1 x Y.2.2.2)) → (True) → tt Zi d 67 (40, [some (.inr (.inl 12)), some (.inl x)], [.inl j5, .inr (.inl 12)], n, D, (us s 1209 (nB Y.1 x Y.2.2.2)), p, c) (fun R H => ∃ (s' : Nat → Int), R = .inl none ∧ H = (n, D, s', p, c) ∧ bS s' ∧ wp q g n D p s' ∧ fr s s' [1209, 1211, 1212, 1213, 1214, 1215, 1216] ∧ (s' 1212 = sS Z (s 1208) (nB Y.1 x Y.2.2.2)) ∧ (s' 1211 = 365 + sS Z (s 1208) (nB Y.1 x Y.2.2.2)) ∧ (s' 1214 = gS Z (s 1208) (nB Y.1 x Y.2.2.2)) ∧ (s' 1215 = tS Z (s 1208) (nB Y.1 x Y.2.2.2)) ∧ (s' 1213 = kS M (sS Z (s 1208) (nB Y.1 x Y.2.2.2))) ∧ (s' 1216 = oS M (sS Z (s 1208) (nB Y.1 x Y.2.2.2)))) := by
    intro j5 b8 b9 hj7
    refine tt_k 11 (S' := (61, [some (.inr (.inl 12)), some (.inl x)], [.inl 1, .inl j5, .inr (.inl 12)], n, D, (us (us (us s 1209 (nB Y.1 x Y.2.2.2)) 1212 j5) 1211 (365 + j5)), p, c)) rfl ?_
    have K11 : ∀ (j10 : Int) , (0 ≤ j10 ∧ j10 ≤ 65535) → (j10 = gS Z (s 1208) (nB Y.1 x Y.2.2.2)) → (True) → tt Zi d 67 (75, [some (.inr (.inl 12)), some (.inl x)], [.inl j10, .inr (.inl 12)], n, D, (us (us (us s 1209 (nB Y.1 x Y.2.2.2)) 1212 j5) 1211 (365 + j5)), p, c) (fun R H => ∃ (s' : Nat → Int), R = .inl none ∧ H = (n, D, s', p, c) ∧ bS s' ∧ wp q g n D p s' ∧ fr s s' [1209, 1211, 1212, 1213, 1214, 1215, 1216] ∧ (s' 1212 = sS Z (s 1208) (nB Y.1 x Y.2.2.2)) ∧ (s' 1211 = 365 + sS Z (s 1208) (nB Y.1 x Y.2.2.2)) ∧ (s' 1214 = gS Z (s 1208) (nB Y.1 x Y.2.2.2)) ∧ (s' 1215 = tS Z (s 1208) (nB Y.1 x Y.2.2.2)) ∧ (s' 1213 = kS M (sS Z (s 1208) (nB Y.1 x Y.2.2.2))) ∧ (s' 1216 = oS M (sS Z (s 1208) (nB Y.1 x Y.2.2.2)))) := by
      intro j10 b13 b14 hj12
      refine tt_k 4 (S' := (83, [some (.inr (.inl 12)), some (.inl x)], [.inl j5, .inr (.inl 12)], n, D, (us (us (us (us s 1209 (nB Y.1 x Y.2.2.2)) 1212 j5) 1211 (365 + j5)) 1214 j10), p, c)) rfl ?_
      have K16 : ∀ (j15 : Int) , (0 ≤ j15 ∧ j15 ≤ 1) → (j15 = tS Z (s 1208) (nB Y.1 x Y.2.2.2)) → (True) → tt Zi d 67 (102, [some (.inr (.inl 12)), some (.inl x)], [.inl j15, .inr (.inl 12)], n, D, (us (us (us (us s 1209 (nB Y.1 x Y.2.2.2)) 1212 j5) 1211 (365 + j5)) 1214 j10), p, c) (fun R H => ∃ (s' : Nat → Int), R = .inl none ∧ H = (n, D, s', p, c) ∧ bS s' ∧ wp q g n D p s' ∧ fr s s' [1209, 1211, 1212, 1213, 1214, 1215, 1216] ∧ (s' 1212 = sS Z (s 1208) (nB Y.1 x Y.2.2.2)) ∧ (s' 1211 = 365 + sS Z (s 1208) (nB Y.1 x Y.2.2.2)) ∧ (s' 1214 = gS Z (s 1208) (nB Y.1 x Y.2.2.2)) ∧ (s' 1215 = tS Z (s 1208) (nB Y.1 x Y.2.2.2)) ∧ (s' 1213 = kS M (sS Z (s 1208) (nB Y.1 x Y.2.2.2))) ∧ (s' 1216 = oS M (sS Z (s 1208) (nB Y.1 x Y.2.2.2)))) := by
        intro j15 b18 b19 hj17
        refine tt_ptb (x := j15) rfl rfl rfl rfl rfl (by omega) ?_
        show tt Zi d 67 (105, [some (.inr (.inl 12)), some (.inl x)], [], n, D, (us (us (us (us (us s 1209 (nB Y.1 x Y.2.2.2)) 1212 j5) 1211 (365 + j5)) 1214 j10) 1215 j15), p, c) _
        refine tt_k 8 (S' := (119, [some (.inr (.inl 12)), some (.inl x)], [.inl 1, .inl j5, .inl (365 + j5), .inr (.inl 9), .inr (.inl 12)], n, D, (us (us (us (us (us s 1209 (nB Y.1 x Y.2.2.2)) 1212 j5) 1211 (365 + j5)) 1214 j10) 1215 j15), p, c)) rfl ?_
        have K21 : ∀ (j20 : Int) , (0 ≤ j20 ∧ j20 ≤ 1) → (j20 = j5) → (True) → tt Zi d 67 (127, [some (.inr (.inl 12)), some (.inl x)], [.inl j20, .inl (365 + j5), .inr (.inl 9), .inr (.inl 12)], n, D, (us (us (us (us (us s 1209 (nB Y.1 x Y.2.2.2)) 1212 j5) 1211 (365 + j5)) 1214 j10) 1215 j15), p, c) (fun R H => ∃ (s' : Nat → Int), R = .inl none ∧ H = (n, D, s', p, c) ∧ bS s' ∧ wp q g n D p s' ∧ fr s s' [1209, 1211, 1212, 1213, 1214, 1215, 1216] ∧ (s' 1212 = sS Z (s 1208) (nB Y.1 x Y.2.2.2)) ∧ (s' 1211 = 365 + sS Z (s 1208) (nB Y.1 x Y.2.2.2)) ∧ (s' 1214 = gS Z (s 1208) (nB Y.1 x Y.2.2.2)) ∧ (s' 1215 = tS Z (s 1208) (nB Y.1 x Y.2.2.2)) ∧ (s' 1213 = kS M (sS Z (s 1208) (nB Y.1 x Y.2.2.2))) ∧ (s' 1216 = oS M (sS Z (s 1208) (nB Y.1 x Y.2.2.2)))) := by
          intro j20 b23 b24 hj22
          refine tt_cl (by omega) rfl (e_lowBits (Zi := Zi) (q := q) (n := n) (D := D) (s := (us (us (us (us (us s 1209 (nB Y.1 x Y.2.2.2)) 1212 j5) 1211 (365 + j5)) 1214 j10) 1215 j15)) (p := p) (c := c) (by omega) hz (by omega) hD (bS_us (bS_us (bS_us (bS_us (bS_us hS (show 0 ≤ (nB Y.1 x Y.2.2.2) ∧ (nB Y.1 x Y.2.2.2) ≤ 65535 by omega)) (show 0 ≤ j5 ∧ j5 ≤ 1 by omega)) (show 0 ≤ (365 + j5) ∧ (365 + j5) ≤ 366 by omega)) (show 0 ≤ j10 ∧ j10 ≤ 65535 by omega)) (show 0 ≤ j15 ∧ j15 ≤ 1 by omega)) hC (wp_us (by decide) (wp_us (by decide) (wp_us (by decide) (wp_us (by decide) (wp_us (by decide) hW))))) t Z M (365 + j5) j20 (by omega) (by omega) hp1 hp3 hp4 hp5) ?_
          rintro _ _ ⟨r25, rfl, rfl, b26, k27⟩
          show tt Zi d 67 (130, [some (.inr (.inl 12)), some (.inl x)], [.inl r25, .inr (.inl 12)], n, D, (us (us (us (us (us s 1209 (nB Y.1 x Y.2.2.2)) 1212 j5) 1211 (365 + j5)) 1214 j10) 1215 j15), p, c) _
          replace k27 : r25 = ke (M 36 (365 + j5).toNat + (if j20 = 1 then M 39 (365 + j5).toNat / 2 else 0)) (M 39 (365 + j5).toNat) := k27
          have hkk : r25 = kS M (sS Z (s 1208) (nB Y.1 x Y.2.2.2)) := by rw [k27]; unfold kS; rw [b24, b9]
          clear k27
          refine tt_k 4 (S' := (138, [some (.inr (.inl 12)), some (.inl x)], [.inl r25, .inr (.inl 12)], n, D, (us (us (us (us (us (us s 1209 (nB Y.1 x Y.2.2.2)) 1212 j5) 1211 (365 + j5)) 1214 j10) 1215 j15) 1213 r25), p, c)) rfl ?_
          have K29 : ∀ (j28 : Int) , (0 ≤ j28 ∧ j28 ≤ 1) → (j28 = oS M (sS Z (s 1208) (nB Y.1 x Y.2.2.2))) → (True) → tt Zi d 67 (160, [some (.inr (.inl 12)), some (.inl x)], [.inl j28, .inr (.inl 12)], n, D, (us (us (us (us (us (us s 1209 (nB Y.1 x Y.2.2.2)) 1212 j5) 1211 (365 + j5)) 1214 j10) 1215 j15) 1213 r25), p, c) (fun R H => ∃ (s' : Nat → Int), R = .inl none ∧ H = (n, D, s', p, c) ∧ bS s' ∧ wp q g n D p s' ∧ fr s s' [1209, 1211, 1212, 1213, 1214, 1215, 1216] ∧ (s' 1212 = sS Z (s 1208) (nB Y.1 x Y.2.2.2)) ∧ (s' 1211 = 365 + sS Z (s 1208) (nB Y.1 x Y.2.2.2)) ∧ (s' 1214 = gS Z (s 1208) (nB Y.1 x Y.2.2.2)) ∧ (s' 1215 = tS Z (s 1208) (nB Y.1 x Y.2.2.2)) ∧ (s' 1213 = kS M (sS Z (s 1208) (nB Y.1 x Y.2.2.2))) ∧ (s' 1216 = oS M (sS Z (s 1208) (nB Y.1 x Y.2.2.2)))) := by
            intro j28 b31 b32 hj30
            refine tt_ptb (x := j28) rfl rfl rfl rfl rfl (by omega) ?_
            show tt Zi d 67 (163, [some (.inr (.inl 12)), some (.inl x)], [], n, D, (us (us (us (us (us (us (us s 1209 (nB Y.1 x Y.2.2.2)) 1212 j5) 1211 (365 + j5)) 1214 j10) 1215 j15) 1213 r25) 1216 j28), p, c) _
            exact tt_rtv rfl rfl ⟨(us (us (us (us (us (us (us s 1209 (nB Y.1 x Y.2.2.2)) 1212 j5) 1211 (365 + j5)) 1214 j10) 1215 j15) 1213 r25) 1216 j28), rfl, rfl, (bS_us (bS_us (bS_us (bS_us (bS_us (bS_us (bS_us hS (show 0 ≤ (nB Y.1 x Y.2.2.2) ∧ (nB Y.1 x Y.2.2.2) ≤ 65535 by omega)) (show 0 ≤ j5 ∧ j5 ≤ 1 by omega)) (show 0 ≤ (365 + j5) ∧ (365 + j5) ≤ 366 by omega)) (show 0 ≤ j10 ∧ j10 ≤ 65535 by omega)) (show 0 ≤ j15 ∧ j15 ≤ 1 by omega)) (show 0 ≤ r25 ∧ r25 ≤ 30 by omega)) (show 0 ≤ j28 ∧ j28 ≤ 1 by omega)), (wp_us (by decide) (wp_us (by decide) (wp_us (by decide) (wp_us (by decide) (wp_us (by decide) (wp_us (by decide) (wp_us (by decide) hW))))))), (fr_us (by decide) (fr_us (by decide) (fr_us (by decide) (fr_us (by decide) (fr_us (by decide) (fr_us (by decide) (fr_us (by decide) fr_rf))))))), by show j5 = sS Z (s 1208) (nB Y.1 x Y.2.2.2); exact b9, by show (365 + j5) = 365 + sS Z (s 1208) (nB Y.1 x Y.2.2.2); rw [b9], by show j10 = gS Z (s 1208) (nB Y.1 x Y.2.2.2); exact b14, by show j15 = tS Z (s 1208) (nB Y.1 x Y.2.2.2); exact b19, by show r25 = kS M (sS Z (s 1208) (nB Y.1 x Y.2.2.2)); exact hkk, by show j28 = oS M (sS Z (s 1208) (nB Y.1 x Y.2.2.2)); exact b32⟩
          refine tz_ne (x := r25) rfl rfl (by omega) (fun h33 => ?_) (fun h33 => ?_)
          · show tt Zi d 67 (159, [some (.inr (.inl 12)), some (.inl x)], [.inr (.inl 12)], n, D, (us (us (us (us (us (us s 1209 (nB Y.1 x Y.2.2.2)) 1212 j5) 1211 (365 + j5)) 1214 j10) 1215 j15) 1213 r25), p, c) _
            refine tt_k 1 (S' := (160, [some (.inr (.inl 12)), some (.inl x)], [.inl 0, .inr (.inl 12)], n, D, (us (us (us (us (us (us s 1209 (nB Y.1 x Y.2.2.2)) 1212 j5) 1211 (365 + j5)) 1214 j10) 1215 j15) 1213 r25), p, c)) rfl ?_
            exact K29 0  (by omega) (by unfold oS; rw [← hkk, ← b9]; first | rw [if_pos (by omega)] | rw [if_neg (by omega)]) (trivial)
          · show tt Zi d 67 (141, [some (.inr (.inl 12)), some (.inl x)], [.inr (.inl 12)], n, D, (us (us (us (us (us (us s 1209 (nB Y.1 x Y.2.2.2)) 1212 j5) 1211 (365 + j5)) 1214 j10) 1215 j15) 1213 r25), p, c) _
            refine tt_k 4 (S' := (149, [some (.inr (.inl 12)), some (.inl x)], [.inl (365 + j5), .inr (.inl 9), .inr (.inl 12)], n, D, (us (us (us (us (us (us s 1209 (nB Y.1 x Y.2.2.2)) 1212 j5) 1211 (365 + j5)) 1214 j10) 1215 j15) 1213 r25), p, c)) rfl ?_
            refine tt_cl (by omega) rfl (e_isSeldom (Zi := Zi) (q := q) (n := n) (D := D) (s := (us (us (us (us (us (us s 1209 (nB Y.1 x Y.2.2.2)) 1212 j5) 1211 (365 + j5)) 1214 j10) 1215 j15) 1213 r25)) (p := p) (c := c) (by omega) hz (by omega) hD (bS_us (bS_us (bS_us (bS_us (bS_us (bS_us hS (show 0 ≤ (nB Y.1 x Y.2.2.2) ∧ (nB Y.1 x Y.2.2.2) ≤ 65535 by omega)) (show 0 ≤ j5 ∧ j5 ≤ 1 by omega)) (show 0 ≤ (365 + j5) ∧ (365 + j5) ≤ 366 by omega)) (show 0 ≤ j10 ∧ j10 ≤ 65535 by omega)) (show 0 ≤ j15 ∧ j15 ≤ 1 by omega)) (show 0 ≤ r25 ∧ r25 ≤ 30 by omega)) hC (wp_us (by decide) (wp_us (by decide) (wp_us (by decide) (wp_us (by decide) (wp_us (by decide) (wp_us (by decide) hW)))))) t Z M (365 + j5) (by omega) hp1 hp3 hp4 hp5) ?_
            rintro _ _ ⟨r34, rfl, rfl, b35, k36⟩
            show tt Zi d 67 (152, [some (.inr (.inl 12)), some (.inl x)], [.inl r34, .inr (.inl 12)], n, D, (us (us (us (us (us (us s 1209 (nB Y.1 x Y.2.2.2)) 1212 j5) 1211 (365 + j5)) 1214 j10) 1215 j15) 1213 r25), p, c) _
            replace k36 : r34 = 1 ↔ 2 * M 37 (365 + j5).toNat < M 39 (365 + j5).toNat := k36
            refine tz_eq (x := r34) rfl rfl (by omega) (fun h37 => ?_) (fun h37 => ?_)
            · show tt Zi d 67 (159, [some (.inr (.inl 12)), some (.inl x)], [.inr (.inl 12)], n, D, (us (us (us (us (us (us s 1209 (nB Y.1 x Y.2.2.2)) 1212 j5) 1211 (365 + j5)) 1214 j10) 1215 j15) 1213 r25), p, c) _
              refine tt_k 1 (S' := (160, [some (.inr (.inl 12)), some (.inl x)], [.inl 0, .inr (.inl 12)], n, D, (us (us (us (us (us (us s 1209 (nB Y.1 x Y.2.2.2)) 1212 j5) 1211 (365 + j5)) 1214 j10) 1215 j15) 1213 r25), p, c)) rfl ?_
              exact K29 0  (by omega) (by unfold oS; rw [← hkk, ← b9]; first | rw [if_pos (by omega)] | rw [if_neg (by omega)]) (trivial)
            · show tt Zi d 67 (155, [some (.inr (.inl 12)), some (.inl x)], [.inr (.inl 12)], n, D, (us (us (us (us (us (us s 1209 (nB Y.1 x Y.2.2.2)) 1212 j5) 1211 (365 + j5)) 1214 j10) 1215 j15) 1213 r25), p, c) _
              refine tt_k 2 (S' := (160, [some (.inr (.inl 12)), some (.inl x)], [.inl 1, .inr (.inl 12)], n, D, (us (us (us (us (us (us s 1209 (nB Y.1 x Y.2.2.2)) 1212 j5) 1211 (365 + j5)) 1214 j10) 1215 j15) 1213 r25), p, c)) rfl ?_
              exact K29 1  (by omega) (by unfold oS; rw [← hkk, ← b9]; first | rw [if_pos (by omega)] | rw [if_neg (by omega)]) (trivial)
        refine tb_ne (x := j5) (y := 1) rfl rfl (by omega) (fun h38 => ?_) (fun h38 => ?_)
        · show tt Zi d 67 (126, [some (.inr (.inl 12)), some (.inl x)], [.inl (365 + j5), .inr (.inl 9), .inr (.inl 12)], n, D, (us (us (us (us (us s 1209 (nB Y.1 x Y.2.2.2)) 1212 j5) 1211 (365 + j5)) 1214 j10) 1215 j15), p, c) _
          refine tt_k 1 (S' := (127, [some (.inr (.inl 12)), some (.inl x)], [.inl 0, .inl (365 + j5), .inr (.inl 9), .inr (.inl 12)], n, D, (us (us (us (us (us s 1209 (nB Y.1 x Y.2.2.2)) 1212 j5) 1211 (365 + j5)) 1214 j10) 1215 j15), p, c)) rfl ?_
          exact K21 0  (by omega) (by omega) (trivial)
        · show tt Zi d 67 (122, [some (.inr (.inl 12)), some (.inl x)], [.inl (365 + j5), .inr (.inl 9), .inr (.inl 12)], n, D, (us (us (us (us (us s 1209 (nB Y.1 x Y.2.2.2)) 1212 j5) 1211 (365 + j5)) 1214 j10) 1215 j15), p, c) _
          refine tt_k 2 (S' := (127, [some (.inr (.inl 12)), some (.inl x)], [.inl 1, .inl (365 + j5), .inr (.inl 9), .inr (.inl 12)], n, D, (us (us (us (us (us s 1209 (nB Y.1 x Y.2.2.2)) 1212 j5) 1211 (365 + j5)) 1214 j10) 1215 j15), p, c)) rfl ?_
          exact K21 1  (by omega) (by omega) (trivial)
      refine tz_ne (x := j5) rfl rfl (by omega) (fun h39 => ?_) (fun h39 => ?_)
      · show tt Zi d 67 (101, [some (.inr (.inl 12)), some (.inl x)], [.inr (.inl 12)], n, D, (us (us (us (us s 1209 (nB Y.1 x Y.2.2.2)) 1212 j5) 1211 (365 + j5)) 1214 j10), p, c) _
        refine tt_k 1 (S' := (102, [some (.inr (.inl 12)), some (.inl x)], [.inl 0, .inr (.inl 12)], n, D, (us (us (us (us s 1209 (nB Y.1 x Y.2.2.2)) 1212 j5) 1211 (365 + j5)) 1214 j10), p, c)) rfl ?_
        exact K16 0  (by omega) (by unfold tS; rw [← b9]; first | rw [if_pos (by omega)] | rw [if_neg (by omega)]) (trivial)
      · show tt Zi d 67 (86, [some (.inr (.inl 12)), some (.inl x)], [.inr (.inl 12)], n, D, (us (us (us (us s 1209 (nB Y.1 x Y.2.2.2)) 1212 j5) 1211 (365 + j5)) 1214 j10), p, c) _
        refine tt_k 4 (S' := (94, [some (.inr (.inl 12)), some (.inl x)], [.inl (nB Y.1 x Y.2.2.2), .inl (s 1208), .inr (.inl 12)], n, D, (us (us (us (us s 1209 (nB Y.1 x Y.2.2.2)) 1212 j5) 1211 (365 + j5)) 1214 j10), p, c)) rfl ?_
        refine tb_le (x := (s 1208)) (y := (nB Y.1 x Y.2.2.2)) rfl rfl (by omega) (fun h40 => ?_) (fun h40 => ?_)
        · show tt Zi d 67 (101, [some (.inr (.inl 12)), some (.inl x)], [.inr (.inl 12)], n, D, (us (us (us (us s 1209 (nB Y.1 x Y.2.2.2)) 1212 j5) 1211 (365 + j5)) 1214 j10), p, c) _
          refine tt_k 1 (S' := (102, [some (.inr (.inl 12)), some (.inl x)], [.inl 0, .inr (.inl 12)], n, D, (us (us (us (us s 1209 (nB Y.1 x Y.2.2.2)) 1212 j5) 1211 (365 + j5)) 1214 j10), p, c)) rfl ?_
          exact K16 0  (by omega) (by unfold tS; rw [← b9]; first | rw [if_pos (by omega)] | rw [if_neg (by omega)]) (trivial)
        · show tt Zi d 67 (97, [some (.inr (.inl 12)), some (.inl x)], [.inr (.inl 12)], n, D, (us (us (us (us s 1209 (nB Y.1 x Y.2.2.2)) 1212 j5) 1211 (365 + j5)) 1214 j10), p, c) _
          refine tt_k 2 (S' := (102, [some (.inr (.inl 12)), some (.inl x)], [.inl 1, .inr (.inl 12)], n, D, (us (us (us (us s 1209 (nB Y.1 x Y.2.2.2)) 1212 j5) 1211 (365 + j5)) 1214 j10), p, c)) rfl ?_
          exact K16 1  (by omega) (by unfold tS; rw [← b9]; first | rw [if_pos (by omega)] | rw [if_neg (by omega)]) (trivial)
    refine tb_ne (x := j5) (y := 1) rfl rfl (by omega) (fun h41 => ?_) (fun h41 => ?_)
    · show tt Zi d 67 (71, [some (.inr (.inl 12)), some (.inl x)], [.inr (.inl 12)], n, D, (us (us (us s 1209 (nB Y.1 x Y.2.2.2)) 1212 j5) 1211 (365 + j5)), p, c) _
      refine tt_k 2 (S' := (75, [some (.inr (.inl 12)), some (.inl x)], [.inl (nB Y.1 x Y.2.2.2), .inr (.inl 12)], n, D, (us (us (us s 1209 (nB Y.1 x Y.2.2.2)) 1212 j5) 1211 (365 + j5)), p, c)) rfl ?_
      exact K11 (nB Y.1 x Y.2.2.2)  (by omega) (by unfold gS; rw [← b9]; first | rw [if_pos (by omega)] | rw [if_neg (by omega)]) (trivial)
    · show tt Zi d 67 (64, [some (.inr (.inl 12)), some (.inl x)], [.inr (.inl 12)], n, D, (us (us (us s 1209 (nB Y.1 x Y.2.2.2)) 1212 j5) 1211 (365 + j5)), p, c) _
      refine tt_k 3 (S' := (75, [some (.inr (.inl 12)), some (.inl x)], [.inl (s 1208), .inr (.inl 12)], n, D, (us (us (us s 1209 (nB Y.1 x Y.2.2.2)) 1212 j5) 1211 (365 + j5)), p, c)) rfl ?_
      exact K11 (s 1208)  (by omega) (by unfold gS; rw [← b9]; first | rw [if_pos (by omega)] | rw [if_neg (by omega)]) (trivial)
  refine tb_gt (x := (if 0 ≤ ((s 1208) - (nB Y.1 x Y.2.2.2)) then ((s 1208) - (nB Y.1 x Y.2.2.2)) else -((s 1208) - (nB Y.1 x Y.2.2.2)))) (y := (s 801)) rfl rfl (by omega) (fun h42 => ?_) (fun h42 => ?_)
  · show tt Zi d 67 (39, [some (.inr (.inl 12)), some (.inl x)], [.inr (.inl 12)], n, D, (us s 1209 (nB Y.1 x Y.2.2.2)), p, c) _
    refine tt_k 1 (S' := (40, [some (.inr (.inl 12)), some (.inl x)], [.inl 0, .inr (.inl 12)], n, D, (us s 1209 (nB Y.1 x Y.2.2.2)), p, c)) rfl ?_
    exact K6 0  (by omega) (by unfold sS fA; rw [← z1]; first | rw [if_pos (by omega)] | rw [if_neg (by omega)]) (trivial)
  · show tt Zi d 67 (35, [some (.inr (.inl 12)), some (.inl x)], [.inr (.inl 12)], n, D, (us s 1209 (nB Y.1 x Y.2.2.2)), p, c) _
    refine tt_k 2 (S' := (40, [some (.inr (.inl 12)), some (.inl x)], [.inl 1, .inr (.inl 12)], n, D, (us s 1209 (nB Y.1 x Y.2.2.2)), p, c)) rfl ?_
    exact K6 1  (by omega) (by unfold sS fA; rw [← z1]; first | rw [if_pos (by omega)] | rw [if_neg (by omega)]) (trivial)
set_option maxRecDepth 100000 in
set_option maxHeartbeats 4000000 in
theorem e_stopLimit {g : Nat → Int} {Zi : Nat → Option (Nat × (Nat → Int))} {d n q : Nat} {D : Nat → Nat × Nat} {s : Nat → Int} {p : Nat → Nat} {c : Nat → Nat → Int} (hd : 1 ≤ d) (hz : zk Zi) (hq : q + 2 ≤ 400000) (hD : wd n p) (hS : bS s) (hC : bC D c) (hW : wp q g n D p s) (Z : Nat → Int) (hp0 : zq Z (s 800) (s 801) (s 802) (s 803) (s 804) (s 805) (s 806) (s 807) (s 808) (s 809)) (hp1 : mv Z) : tt Zi d 70 (0, [some (.inr (.inl 12))], [], n, D, s, p, c) (fun R H => ∃ (r : Int), R = .inl (some (.inl r)) ∧ H = (n, D, s, p, c) ∧ (-16 ≤ r ∧ r ≤ 63) ∧ (r = Z 3026 - 1 - jj (s 902))) := by
  have hzq := hp0
  obtain ⟨z0, z1, z2, z3, z4, z5, z6, z7, z8, z9⟩ := hzq
  have mvx := mv_fx (s := Z) hp1
  refine tt_k 7 (S' := (13, [some (.inr (.inl 12))], [.inr (.inl 9), .inl ((s 809) - 1)], n, D, s, p, c)) rfl ?_
  refine tt_cl (by omega) rfl (e_runBits (Zi := Zi) (q := q) (n := n) (D := D) (s := s) (p := p) (c := c) (by omega) hz (by omega) hD hS hC hW ) ?_
  rintro _ _ ⟨r1, rfl, rfl, b2, k3⟩
  show tt Zi d 70 (16, [some (.inr (.inl 12))], [.inl r1, .inl ((s 809) - 1)], n, D, s, p, c) _
  replace k3 : r1 = jj ((s 902)) := k3
  have b4 : 0 ≤ (s 902) ∧ (s 902) ≤ 31 := hS 902
  refine tt_k 1 (S' := (17, [some (.inr (.inl 12))], [.inl ((((s 809) - 1) - r1))], n, D, s, p, c)) rfl ?_
  have b5 : 0 ≤ (s 809) ∧ (s 809) ≤ 64 := hS 809
  exact tt_rti rfl rfl ⟨(((s 809) - 1) - r1), rfl, rfl, by omega, by show ((((s 809) - 1) - r1)) = Z 3026 - 1 - jj (s 902); omega⟩
set_option maxRecDepth 100000 in
set_option maxHeartbeats 4000000 in
theorem e_takeStop {g : Nat → Int} {Zi : Nat → Option (Nat × (Nat → Int))} {d n q : Nat} {D : Nat → Nat × Nat} {s : Nat → Int} {p : Nat → Nat} {c : Nat → Nat → Int} (hd : 2 ≤ d) (hz : zk Zi) (hq : q + 4 ≤ 400000) (hD : wd n p) (hS : bS s) (hC : bC D c) (hW : wp q g n D p s) (t : Int) (Z : Nat → Int) (M : MT) (x : Int) (e : Int) (nu : Int) (b_x : 0 ≤ x ∧ x ≤ 63) (b_e : -65536 ≤ e ∧ e ≤ 65536) (b_nu : 0 ≤ nu ∧ nu ≤ 65536) (hp0 : mrc M (c (p 901))) (hp1 : zq Z (s 800) (s 801) (s 802) (s 803) (s 804) (s 805) (s 806) (s 807) (s 808) (s 809)) (hp2 : mv Z) (hp3 : pl Z t M) (hp4 : 0 ≤ t ∧ t ≤ 4095) (hp5 : 0 ≤ s 1214 ∧ s 1214 ≤ Z 3017) (hp6 : 0 ≤ s 1212 ∧ s 1212 ≤ 1) : tt Zi d 71 (0, [some (.inr (.inl 12)), some (.inl x), some (.inl e), some (.inl nu)], [], n, D, s, p, c) (fun R H => ∃ (s' : Nat → Int) (c' : Nat → Nat → Int), R = .inl none ∧ H = (n, D, s', p, c') ∧ bS s' ∧ bC D c' ∧ wp q g n D p s' ∧ fr s s' [902] ∧ fk p c n p c' [901, 1204] ∧ (c' (p 1204) = ua (c (p 1204)) (x + 1).toNat (rR Z (s 1214) (s 1215) e)) ∧ (mrc (mStp Z M (s 1211).toNat e ((nu + 1 - s 1212) / 2)) (c' (p 901))) ∧ (s' 902 = (if 0 < s 902 then s 902 - 1 else 0))) := by
  have hzq := hp1
  obtain ⟨z0, z1, z2, z3, z4, z5, z6, z7, z8, z9⟩ := hzq
  have mvx := mv_fx (s := Z) hp2
  have b1 : 0 ≤ (s 1211) ∧ (s 1211) ≤ 366 := hS 1211
  refine tt_k 11 (S' := (19, [some (.inr (.inl 12)), some (.inl x), some (.inl e), some (.inl nu)], [.inl (s 1215), .inl (s 1214), .inr (.inl 8), .inl (x + 1), .inr (.inl (p 1204))], n, D, s, p, c)) rfl ?_
  have b2 : 0 ≤ (s 1215) ∧ (s 1215) ≤ 1 := hS 1215
  have K4 : ∀ (j3 : Int) , (-65536 ≤ j3 ∧ j3 ≤ 65536) → (j3 = (if s 1215 = 1 then -e else e)) → (True) → tt Zi d 71 (28, [some (.inr (.inl 12)), some (.inl x), some (.inl e), some (.inl nu)], [.inl j3, .inl (s 1214), .inr (.inl 8), .inl (x + 1), .inr (.inl (p 1204))], n, D, s, p, c) (fun R H => ∃ (s' : Nat → Int) (c' : Nat → Nat → Int), R = .inl none ∧ H = (n, D, s', p, c') ∧ bS s' ∧ bC D c' ∧ wp q g n D p s' ∧ fr s s' [902] ∧ fk p c n p c' [901, 1204] ∧ (c' (p 1204) = ua (c (p 1204)) (x + 1).toNat (rR Z (s 1214) (s 1215) e)) ∧ (mrc (mStp Z M (s 1211).toNat e ((nu + 1 - s 1212) / 2)) (c' (p 901))) ∧ (s' 902 = (if 0 < s 902 then s 902 - 1 else 0))) := by
    intro j3 b6 b7 hj5
    have b8 : 0 ≤ (s 1214) ∧ (s 1214) ≤ 65535 := hS 1214
    have b9 : 0 ≤ (s 800) ∧ (s 800) ≤ 65535 := hS 800
    have b10 : -2147483648 ≤ (s 801) ∧ (s 801) ≤ 2147483647 := hS 801
    have b11 : -2147483648 ≤ (s 802) ∧ (s 802) ≤ 2147483647 := hS 802
    have b12 : -2147483648 ≤ (s 803) ∧ (s 803) ≤ 2147483647 := hS 803
    have b13 : -2147483648 ≤ (s 804) ∧ (s 804) ≤ 2147483647 := hS 804
    have b14 : 0 ≤ (s 805) ∧ (s 805) ≤ 65535 := hS 805
    have b15 : 1 ≤ (s 806) ∧ (s 806) ≤ 511 := hS 806
    have b16 : 0 ≤ (s 807) ∧ (s 807) ≤ 65536 := hS 807
    have b17 : 0 ≤ (s 808) ∧ (s 808) ≤ 30 := hS 808
    have b18 : 0 ≤ (s 809) ∧ (s 809) ≤ 64 := hS 809
    refine tt_cl (by omega) rfl (e_rebuilt (Zi := Zi) (q := q) (n := n) (D := D) (s := s) (p := p) (c := c) (by omega) hz (by omega) hD hS hC hW Z (s 1214) j3 (by omega) (by omega) hp1 hp2) ?_
    rintro _ _ ⟨r19, rfl, rfl, b20, k21⟩
    show tt Zi d 71 (31, [some (.inr (.inl 12)), some (.inl x), some (.inl e), some (.inl nu)], [.inl r19, .inl (x + 1), .inr (.inl (p 1204))], n, D, s, p, c) _
    replace k21 : r19 = fR Z (s 1214) j3 := k21
    have hrb : r19 = rR Z (s 1214) (s 1215) e := by rw [k21]; unfold rR; rw [b7]
    refine tt_isb (i := (x + 1)) (m := 66) (lo := 0) (hi := 65535) (x := r19) rfl ((sw_arr (hW).a12 rfl rfl).2) (by omega) hC ((sw_12 (hW).a12).2) (by omega) ?_
    intro c22 hC22 ec22
    show tt Zi d 71 (32, [some (.inr (.inl 12)), some (.inl x), some (.inl e), some (.inl nu)], [], n, D, s, p, c22) _
    have FK23 : fk p c n p c22 [901, 1204] := fk_st (k := 1204) (fk_rf hD) ec22 (by decide) rfl
    have hx24 : mrc M (c22 (p 901)) := by rw [ec22, uc_ne (show (p 901) ≠ (p 1204) from FK23.1.2 901 (by decide) 1204 (by decide) (by decide))]; exact hp0
    refine tt_k 12 (S' := (50, [some (.inr (.inl 12)), some (.inl x), some (.inl e), some (.inl nu)], [.inl 2, .inl ((nu + 1) - (s 1212)), .inl e, .inl (s 1211), .inr (.inl 9)], n, D, s, p, c22)) rfl ?_
    have b25 : 0 ≤ (s 1212) ∧ (s 1212) ≤ 1 := hS 1212
    refine tt_dvp (x := ((nu + 1) - (s 1212))) (y := 2) rfl (by omega) ?_
    show tt Zi d 71 (51, [some (.inr (.inl 12)), some (.inl x), some (.inl e), some (.inl nu)], [.inl ((((nu + 1) - (s 1212)) / 2)), .inl e, .inl (s 1211), .inr (.inl 9)], n, D, s, p, c22) _
    refine tt_k 3 (S' := (58, [some (.inr (.inl 12)), some (.inl x), some (.inl e), some (.inl nu)], [.inl (s 805), .inl ((((nu + 1) - (s 1212)) / 2)), .inl e, .inl (s 1211), .inr (.inl 9)], n, D, s, p, c22)) rfl ?_
    refine tt_cl (by omega) rfl (e_learnStop (Zi := Zi) (q := q) (n := n) (D := D) (s := s) (p := p) (c := c22) (by omega) hz (by omega) FK23.1 hS hC22 hW t Z M (s 1211) e ((((nu + 1) - (s 1212)) / 2)) (s 805) (by omega) (by omega) (by omega) (by omega) hx24 hp2 hp3 hp4 (show (s 805) = Z 3022 by omega)) ?_
    rintro _ _ ⟨c26, rfl, rfl, hC26, kf27, k28⟩
    have FK29 : fk p c n p c26 [901, 1204] := fk_tr FK23 kf27 (by decide)
    show tt Zi d 71 (61, [some (.inr (.inl 12)), some (.inl x), some (.inl e), some (.inl nu)], [], n, D, s, p, c26) _
    refine tt_k 2 (S' := (65, [some (.inr (.inl 12)), some (.inl x), some (.inl e), some (.inl nu)], [.inr (.inl 9)], n, D, s, p, c26)) rfl ?_
    refine tt_cl (by omega) rfl (e_slacken (Zi := Zi) (q := q) (n := n) (D := D) (s := s) (p := p) (c := c26) (by omega) hz (by omega) FK29.1 hS hC26 hW ) ?_
    rintro _ _ ⟨s30, rfl, rfl, hS30, hW31, f32, k33⟩
    show tt Zi d 71 (68, [some (.inr (.inl 12)), some (.inl x), some (.inl e), some (.inl nu)], [], n, D, s30, p, c26) _
    replace k33 : (s30 902) = (if 0 < (s 902) then (s 902) - 1 else 0) := k33
    have b34 : 0 ≤ (s 902) ∧ (s 902) ≤ 31 := hS 902
    have b35 : 0 ≤ (s30 902) ∧ (s30 902) ≤ 31 := hS30 902
    have hx36 : zq Z (s30 800) (s30 801) (s30 802) (s30 803) (s30 804) (s30 805) (s30 806) (s30 807) (s30 808) (s30 809) := by rw [f32 800 (by decide), f32 801 (by decide), f32 802 (by decide), f32 803 (by decide), f32 804 (by decide), f32 805 (by decide), f32 806 (by decide), f32 807 (by decide), f32 808 (by decide), f32 809 (by decide)]; exact hp1
    exact tt_rtv rfl rfl ⟨s30, c26, rfl, rfl, hS30, hC26, hW31, (fr_tr fr_rf f32 (by decide)), FK29, by show c26 (p 1204) = ua (c (p 1204)) (x + 1).toNat (rR Z (s 1214) (s 1215) e); rw [fk_k (k := 1204) kf27 (by decide), ec22, uc_eq, hrb], k28, by show (s30 902) = (if 0 < s 902 then s 902 - 1 else 0); exact k33⟩
  refine tz_eq (x := (s 1215)) rfl rfl (by omega) (fun h37 => ?_) (fun h37 => ?_)
  · show tt Zi d 71 (27, [some (.inr (.inl 12)), some (.inl x), some (.inl e), some (.inl nu)], [.inl (s 1214), .inr (.inl 8), .inl (x + 1), .inr (.inl (p 1204))], n, D, s, p, c) _
    refine tt_k 1 (S' := (28, [some (.inr (.inl 12)), some (.inl x), some (.inl e), some (.inl nu)], [.inl e, .inl (s 1214), .inr (.inl 8), .inl (x + 1), .inr (.inl (p 1204))], n, D, s, p, c)) rfl ?_
    exact K4 e  (by omega) (by first | rw [if_pos (by omega)] | rw [if_neg (by omega)]) (trivial)
  · show tt Zi d 71 (22, [some (.inr (.inl 12)), some (.inl x), some (.inl e), some (.inl nu)], [.inl (s 1214), .inr (.inl 8), .inl (x + 1), .inr (.inl (p 1204))], n, D, s, p, c) _
    refine tt_k 3 (S' := (28, [some (.inr (.inl 12)), some (.inl x), some (.inl e), some (.inl nu)], [.inl (-e), .inl (s 1214), .inr (.inl 8), .inl (x + 1), .inr (.inl (p 1204))], n, D, s, p, c)) rfl ?_
    exact K4 (-e)  (by omega) (by first | rw [if_pos (by omega)] | rw [if_neg (by omega)]) (trivial)
set_option maxRecDepth 100000 in
set_option maxHeartbeats 4000000 in
theorem e_tellStop {g : Nat → Int} {Zi : Nat → Option (Nat × (Nat → Int))} {d n q : Nat} {D : Nat → Nat × Nat} {s : Nat → Int} {p : Nat → Nat} {c : Nat → Nat → Int} (hd : 4 ≤ d) (hz : zk Zi) (hq : q + 8 ≤ 400000) (hD : wd n p) (hS : bS s) (hC : bC D c) (hW : wp q g n D p s) (t : Int) (Z : Nat → Int) (W : WT) (M : MT) (v : Int) (x : Int) (b_x : 0 ≤ x ∧ x ≤ 63) (hp0 : wo s) (hp1 : 7 * s 401 - s 1602 + 300 ≤ 1834990) (hp2 : s 1207 + x < (ln D (p 1205) : Int)) (hp3 : mrc M (c (p 901))) (hp4 : zq Z (s 800) (s 801) (s 802) (s 803) (s 804) (s 805) (s 806) (s 807) (s 808) (s 809)) (hp5 : mv Z) (hp6 : pl Z t M) (hp7 : 0 ≤ t ∧ t ≤ 4095) (hp8 : c (p 1205) (s 1207 + x).toNat = v) (hp9 : (0 ≤ v ∧ v ≤ Z 3017) ∧ (0 ≤ s 1214 ∧ s 1214 ≤ Z 3017)) (hp10 : wrl W (s 401) (s 1601) (s 1602) (c (p 400))) (hp11 : (0 ≤ s 1213 ∧ s 1213 ≤ 30) ∧ (0 ≤ s 1212 ∧ s 1212 ≤ 1)) (hp12 : 0 ≤ fN (eR Z (s 1214) (s 1215) v) (s 1212) (s 1216)) (hp13 : jj (s 902) ≤ 7) : tt Zi d 69 (0, [some (.inr (.inl 12)), some (.inl x), none, none], [], n, D, s, p, c) (fun R H => ∃ (n' : Nat) (D' : Nat → Nat × Nat) (s' : Nat → Int) (p' : Nat → Nat) (c' : Nat → Nat → Int), R = .inl none ∧ H = (n', D', s', p', c') ∧ bS s' ∧ bC D' c' ∧ wp q g n' D' p' s' ∧ fr s s' [401, 902, 1601, 1602] ∧ frp p p' [400] ∧ ext n D n' D' ∧ fk p c n' p' c' [400, 901, 1204] ∧ (wo s') ∧ (7 * s' 401 - s' 1602 ≤ 7 * s 401 - s 1602 + 94) ∧ (wrl (wNum W (fN (eR Z (s 1214) (s 1215) v) (s 1212) (s 1216)) (s 1213) (Z 3026 - 1 - jj (s 902) - Z 3025 - 1) (Z 3025)) (s' 401) (s' 1601) (s' 1602) (c' (p' 400))) ∧ (mrc (mStp Z M (s 1211).toNat (eR Z (s 1214) (s 1215) v) ((fN (eR Z (s 1214) (s 1215) v) (s 1212) (s 1216) + 1 - s 1212) / 2)) (c' (p' 901))) ∧ (c' (p' 1204) = ua (c (p 1204)) (x + 1).toNat (rR Z (s 1214) (s 1215) (eR Z (s 1214) (s 1215) v))) ∧ (s' 902 = (if 0 < s 902 then s 902 - 1 else 0))) := by
  have b1 : ln D (p 1205) ≤ 12288 := (hW).s12.2.2
  have b2 : 0 ≤ (s 1206) ∧ (s 1206) ≤ 64 := hS 1206
  have b3 : 0 ≤ (s 1207) ∧ (s 1207) ≤ 12288 := hS 1207
  have hzq := hp4
  obtain ⟨z0, z1, z2, z3, z4, z5, z6, z7, z8, z9⟩ := hzq
  have mvx := mv_fx (s := Z) hp5
  have b4 : 0 ≤ (s 1214) ∧ (s 1214) ≤ 65535 := hS 1214
  have b5 : 0 ≤ (s 1215) ∧ (s 1215) ≤ 1 := hS 1215
  have b6 : 0 ≤ (s 1211) ∧ (s 1211) ≤ 366 := hS 1211
  have b7 : 0 ≤ (s 1216) ∧ (s 1216) ≤ 1 := hS 1216
  have b8 : 0 ≤ (s 1213) ∧ (s 1213) ≤ 30 := hS 1213
  have b9 : 0 ≤ (s 1212) ∧ (s 1212) ≤ 1 := hS 1212
  have b10 : 0 ≤ (s 902) ∧ (s 902) ≤ 31 := hS 902
  refine tt_k 2 (S' := (2, [some (.inr (.inl 12)), some (.inl x), none, none], [.inl x, .inr (.inl 12)], n, D, s, p, c)) rfl ?_
  have b11 : 0 ≤ (s 800) ∧ (s 800) ≤ 65535 := hS 800
  have b12 : -2147483648 ≤ (s 801) ∧ (s 801) ≤ 2147483647 := hS 801
  have b13 : -2147483648 ≤ (s 802) ∧ (s 802) ≤ 2147483647 := hS 802
  have b14 : -2147483648 ≤ (s 803) ∧ (s 803) ≤ 2147483647 := hS 803
  have b15 : -2147483648 ≤ (s 804) ∧ (s 804) ≤ 2147483647 := hS 804
  have b16 : 0 ≤ (s 805) ∧ (s 805) ≤ 65535 := hS 805
  have b17 : 1 ≤ (s 806) ∧ (s 806) ≤ 511 := hS 806
  have b18 : 0 ≤ (s 807) ∧ (s 807) ≤ 65536 := hS 807
  have b19 : 0 ≤ (s 808) ∧ (s 808) ≤ 30 := hS 808
  have b20 : 0 ≤ (s 809) ∧ (s 809) ≤ 64 := hS 809
  refine tt_cl (by omega) rfl (e_errorAt (Zi := Zi) (q := q) (n := n) (D := D) (s := s) (p := p) (c := c) (by omega) hz (by omega) hD hS hC hW Z v x (by omega) (show (s 1207) + x < (ln D (p 1205) : Int) by omega) hp4 hp5 hp8 (show (0 ≤ v ∧ v ≤ Z 3017) ∧ (0 ≤ (s 1214) ∧ (s 1214) ≤ Z 3017) by omega)) ?_
  rintro _ _ ⟨r21, rfl, rfl, b22, k23, k24⟩
  show tt Zi d 69 (5, [some (.inr (.inl 12)), some (.inl x), none, none], [.inl r21], n, D, s, p, c) _
  replace k23 : r21 = eR Z ((s 1214)) ((s 1215)) v := k23
  replace k24 : -(Z 3024 / 2) ≤ r21 ∧ r21 ≤ (Z 3024 - 1) / 2 := k24
  refine tt_k 3 (S' := (8, [some (.inr (.inl 12)), some (.inl x), some (.inl r21), none], [.inl r21, .inl 2], n, D, s, p, c)) rfl ?_
  refine tt_abs (k := 0) (x := r21) rfl rfl (Nat.le_of_ble_eq_true rfl) (by omega) ?_
  show tt Zi d 69 (11, [some (.inr (.inl 12)), some (.inl x), some (.inl r21), none], [.inl (if 0 ≤ r21 then r21 else -r21), .inl 2], n, D, s, p, c) _
  refine tt_k 6 (S' := (19, [some (.inr (.inl 12)), some (.inl x), some (.inl r21), some (.inl (((2 * (if 0 ≤ r21 then r21 else -r21)) - (s 1212))))], [.inl r21], n, D, s, p, c)) rfl ?_
  have K26 : ∀ (j25 : Int) , (-2 ≤ j25 ∧ j25 ≤ 131072) → (j25 = fN r21 (s 1212) (s 1216)) → (True) → tt Zi d 69 (43, [some (.inr (.inl 12)), some (.inl x), some (.inl r21), some (.inl j25)], [], n, D, s, p, c) (fun R H => ∃ (n' : Nat) (D' : Nat → Nat × Nat) (s' : Nat → Int) (p' : Nat → Nat) (c' : Nat → Nat → Int), R = .inl none ∧ H = (n', D', s', p', c') ∧ bS s' ∧ bC D' c' ∧ wp q g n' D' p' s' ∧ fr s s' [401, 902, 1601, 1602] ∧ frp p p' [400] ∧ ext n D n' D' ∧ fk p c n' p' c' [400, 901, 1204] ∧ (wo s') ∧ (7 * s' 401 - s' 1602 ≤ 7 * s 401 - s 1602 + 94) ∧ (wrl (wNum W (fN (eR Z (s 1214) (s 1215) v) (s 1212) (s 1216)) (s 1213) (Z 3026 - 1 - jj (s 902) - Z 3025 - 1) (Z 3025)) (s' 401) (s' 1601) (s' 1602) (c' (p' 400))) ∧ (mrc (mStp Z M (s 1211).toNat (eR Z (s 1214) (s 1215) v) ((fN (eR Z (s 1214) (s 1215) v) (s 1212) (s 1216) + 1 - s 1212) / 2)) (c' (p' 901))) ∧ (c' (p' 1204) = ua (c (p 1204)) (x + 1).toNat (rR Z (s 1214) (s 1215) (eR Z (s 1214) (s 1215) v))) ∧ (s' 902 = (if 0 < s 902 then s 902 - 1 else 0))) := by
    intro j25 b28 b29 hj27
    refine tt_k 6 (S' := (53, [some (.inr (.inl 12)), some (.inl x), some (.inl r21), some (.inl j25)], [.inr (.inl 12), .inl (s 1213), .inl j25, .inr (.inl 16)], n, D, s, p, c)) rfl ?_
    have hnu : 0 ≤ j25 ∧ j25 ≤ 65536 := by have h0 := hp12; rw [← k23, ← b29] at h0; refine ⟨h0, ?_⟩; have h1 := b29; unfold fN fA at h1; (repeat' split at h1) <;> omega
    refine tt_cl (by omega) rfl (e_stopLimit (Zi := Zi) (q := q) (n := n) (D := D) (s := s) (p := p) (c := c) (by omega) hz (by omega) hD hS hC hW Z hp4 hp5) ?_
    rintro _ _ ⟨r30, rfl, rfl, b31, k32⟩
    show tt Zi d 69 (56, [some (.inr (.inl 12)), some (.inl x), some (.inl r21), some (.inl j25)], [.inl r30, .inl (s 1213), .inl j25, .inr (.inl 16)], n, D, s, p, c) _
    replace k32 : r30 = Z 3026 - 1 - jj ((s 902)) := k32
    refine tt_k 9 (S' := (73, [some (.inr (.inl 12)), some (.inl x), some (.inl r21), some (.inl j25)], [.inl (s 808), .inl (((r30 - (s 808)) - 1)), .inl (s 1213), .inl j25, .inr (.inl 16)], n, D, s, p, c)) rfl ?_
    have b33 : 0 ≤ (s 401) ∧ (s 401) ≤ 262144 := hS 401
    have b34 : 1 ≤ (s 1602) ∧ (s 1602) ≤ 8 := hS 1602
    have b35 : 0 ≤ (s 1601) ∧ (s 1601) ≤ 255 := hS 1601
    refine tt_cl (by omega) rfl (e_writeNumber (Zi := Zi) (q := q) (n := n) (D := D) (s := s) (p := p) (c := c) (by omega) hz (by omega) hD hS hC hW W j25 (s 1213) (((r30 - (s 808)) - 1)) (s 808) (by omega) (by omega) (by omega) (by omega) hp0 (show 7 * (s 401) - (s 1602) + 200 ≤ 1834990 by omega) hp10) ?_
    rintro _ _ ⟨n36, D37, s38, p39, c40, rfl, rfl, hS38, hC40, hW41, f42, g43, xe44, kf45, k46, k47, k48⟩
    have FK49 : fk p c n36 p39 c40 [400, 901, 1204] := fk_tr (fk_rf hD) kf45 (by decide)
    show tt Zi d 69 (76, [some (.inr (.inl 12)), some (.inl x), some (.inl r21), some (.inl j25)], [], n36, D37, s38, p39, c40) _
    replace k47 : 7 * (s38 401) - (s38 1602) ≤ 7 * (s 401) - (s 1602) + 94 := k47
    have b50 : 0 ≤ (s38 401) ∧ (s38 401) ≤ 262144 := hS38 401
    have b51 : 1 ≤ (s38 1602) ∧ (s38 1602) ≤ 8 := hS38 1602
    have b52 : 0 ≤ (s38 1601) ∧ (s38 1601) ≤ 255 := hS38 1601
    have e53 : s38 1214 = (s 1214) := (f42 1214 (by decide))
    have b54 : 0 ≤ (s38 1214) ∧ (s38 1214) ≤ 65535 := hS38 1214
    have e55 : s38 1215 = (s 1215) := (f42 1215 (by decide))
    have b56 : 0 ≤ (s38 1215) ∧ (s38 1215) ≤ 1 := hS38 1215
    have e57 : s38 1211 = (s 1211) := (f42 1211 (by decide))
    have b58 : 0 ≤ (s38 1211) ∧ (s38 1211) ≤ 366 := hS38 1211
    have e59 : s38 1212 = (s 1212) := (f42 1212 (by decide))
    have b60 : 0 ≤ (s38 1212) ∧ (s38 1212) ≤ 1 := hS38 1212
    have e61 : s38 902 = (s 902) := (f42 902 (by decide))
    have b62 : 0 ≤ (s38 902) ∧ (s38 902) ≤ 31 := hS38 902
    have hx63 : mrc M (c40 (p39 901)) := by rw [fk_k (k := 901) kf45 (by decide)]; exact hp3
    have hx64 : zq Z (s38 800) (s38 801) (s38 802) (s38 803) (s38 804) (s38 805) (s38 806) (s38 807) (s38 808) (s38 809) := by rw [f42 800 (by decide), f42 801 (by decide), f42 802 (by decide), f42 803 (by decide), f42 804 (by decide), f42 805 (by decide), f42 806 (by decide), f42 807 (by decide), f42 808 (by decide), f42 809 (by decide)]; exact hp4
    refine tt_k 4 (S' := (80, [some (.inr (.inl 12)), some (.inl x), some (.inl r21), some (.inl j25)], [.inl j25, .inl r21, .inl x, .inr (.inl 12)], n36, D37, s38, p39, c40)) rfl ?_
    have b65 : 0 ≤ (s38 800) ∧ (s38 800) ≤ 65535 := hS38 800
    have b66 : -2147483648 ≤ (s38 801) ∧ (s38 801) ≤ 2147483647 := hS38 801
    have b67 : -2147483648 ≤ (s38 802) ∧ (s38 802) ≤ 2147483647 := hS38 802
    have b68 : -2147483648 ≤ (s38 803) ∧ (s38 803) ≤ 2147483647 := hS38 803
    have b69 : -2147483648 ≤ (s38 804) ∧ (s38 804) ≤ 2147483647 := hS38 804
    have b70 : 0 ≤ (s38 805) ∧ (s38 805) ≤ 65535 := hS38 805
    have b71 : 1 ≤ (s38 806) ∧ (s38 806) ≤ 511 := hS38 806
    have b72 : 0 ≤ (s38 807) ∧ (s38 807) ≤ 65536 := hS38 807
    have b73 : 0 ≤ (s38 808) ∧ (s38 808) ≤ 30 := hS38 808
    have b74 : 0 ≤ (s38 809) ∧ (s38 809) ≤ 64 := hS38 809
    refine tt_cl (by omega) rfl (e_takeStop (Zi := Zi) (q := q) (n := n36) (D := D37) (s := s38) (p := p39) (c := c40) (by omega) hz (by omega) FK49.1 hS38 hC40 hW41 t Z M x r21 j25 (by omega) (by omega) (by omega) hx63 hx64 hp5 hp6 hp7 (show 0 ≤ (s38 1214) ∧ (s38 1214) ≤ Z 3017 by omega) (show 0 ≤ (s38 1212) ∧ (s38 1212) ≤ 1 by omega)) ?_
    rintro _ _ ⟨s75, c76, rfl, rfl, hS75, hC76, hW77, f78, kf79, k80, k81, k82⟩
    have hc83 : wo s75 := wo_fr f78 (by decide) k46
    have FK84 : fk p c n36 p39 c76 [400, 901, 1204] := fk_tr FK49 kf79 (by decide)
    show tt Zi d 69 (83, [some (.inr (.inl 12)), some (.inl x), some (.inl r21), some (.inl j25)], [], n36, D37, s75, p39, c76) _
    replace k82 : (s75 902) = (if 0 < (s38 902) then (s38 902) - 1 else 0) := k82
    have b85 : 0 ≤ (s75 902) ∧ (s75 902) ≤ 31 := hS75 902
    have e86 : s75 401 = (s38 401) := (f78 401 (by decide))
    have b87 : 0 ≤ (s75 401) ∧ (s75 401) ≤ 262144 := hS75 401
    have e88 : s75 1602 = (s38 1602) := (f78 1602 (by decide))
    have b89 : 1 ≤ (s75 1602) ∧ (s75 1602) ≤ 8 := hS75 1602
    have e90 : s75 1214 = (s38 1214) := (f78 1214 (by decide))
    have b91 : 0 ≤ (s75 1214) ∧ (s75 1214) ≤ 65535 := hS75 1214
    have e92 : s75 1215 = (s38 1215) := (f78 1215 (by decide))
    have b93 : 0 ≤ (s75 1215) ∧ (s75 1215) ≤ 1 := hS75 1215
    have e94 : s75 1211 = (s38 1211) := (f78 1211 (by decide))
    have b95 : 0 ≤ (s75 1211) ∧ (s75 1211) ≤ 366 := hS75 1211
    have e96 : s75 1212 = (s38 1212) := (f78 1212 (by decide))
    have b97 : 0 ≤ (s75 1212) ∧ (s75 1212) ≤ 1 := hS75 1212
    have hx98 : zq Z (s75 800) (s75 801) (s75 802) (s75 803) (s75 804) (s75 805) (s75 806) (s75 807) (s75 808) (s75 809) := by rw [f78 800 (by decide), f78 801 (by decide), f78 802 (by decide), f78 803 (by decide), f78 804 (by decide), f78 805 (by decide), f78 806 (by decide), f78 807 (by decide), f78 808 (by decide), f78 809 (by decide)]; exact hx64
    have hx99 : wrl (wNum W j25 (s 1213) (((r30 - (s 808)) - 1)) (s 808)) (s75 401) (s75 1601) (s75 1602) (c76 (p39 400)) := by rw [f78 401 (by decide), f78 1601 (by decide), f78 1602 (by decide), fk_k (k := 400) kf79 (by decide)]; exact k48
    exact tt_rtv rfl rfl ⟨n36, D37, s75, p39, c76, rfl, rfl, hS75, hC76, hW77, (fr_tr (fr_tr fr_rf f42 (by decide)) f78 (by decide)), (frp_tr frp_rf g43 (by decide)), (ext_tr ext_rf xe44), FK84, hc83, by show 7 * (s75 401) - (s75 1602) ≤ 7 * s 401 - s 1602 + 94; omega, by show wrl (wNum W (fN (eR Z (s 1214) (s 1215) v) (s 1212) (s 1216)) (s 1213) (Z 3026 - 1 - jj (s 902) - Z 3025 - 1) (Z 3025)) ((s75 401)) ((s75 1601)) ((s75 1602)) (c76 (p39 400)); have h := hx99; rw [b29, k23, k32] at h; simp only [z8] at h; exact h, by show mrc (mStp Z M (s 1211).toNat (eR Z (s 1214) (s 1215) v) ((fN (eR Z (s 1214) (s 1215) v) (s 1212) (s 1216) + 1 - s 1212) / 2)) (c76 (p39 901)); have h := k81; rw [f42 1211 (by decide), f42 1212 (by decide), b29, k23] at h; exact h, by show c76 (p39 1204) = ua (c (p 1204)) (x + 1).toNat (rR Z (s 1214) (s 1215) (eR Z (s 1214) (s 1215) v)); rw [k80, fk_k (k := 1204) kf45 (by decide), f42 1214 (by decide), f42 1215 (by decide), k23], by show (s75 902) = (if 0 < s 902 then s 902 - 1 else 0); rw [k82, f42 902 (by decide)]⟩
  refine tz_le (x := r21) rfl rfl (by omega) (fun h100 => ?_) (fun h100 => ?_)
  · show tt Zi d 69 (29, [some (.inr (.inl 12)), some (.inl x), some (.inl r21), some (.inl (((2 * (if 0 ≤ r21 then r21 else -r21)) - (s 1212))))], [], n, D, s, p, c) _
    refine tt_k 1 (S' := (30, [some (.inr (.inl 12)), some (.inl x), some (.inl r21), some (.inl (((2 * (if 0 ≤ r21 then r21 else -r21)) - (s 1212))))], [.inl r21], n, D, s, p, c)) rfl ?_
    refine tz_ge (x := r21) rfl rfl (by omega) (fun h101 => ?_) (fun h101 => ?_)
    · show tt Zi d 69 (43, [some (.inr (.inl 12)), some (.inl x), some (.inl r21), some (.inl (((2 * (if 0 ≤ r21 then r21 else -r21)) - (s 1212))))], [], n, D, s, p, c) _
      exact K26 (((2 * (if 0 ≤ r21 then r21 else -r21)) - (s 1212)))  (by omega) (by unfold fN fA; (repeat' split) <;> omega) (trivial)
    · show tt Zi d 69 (33, [some (.inr (.inl 12)), some (.inl x), some (.inl r21), some (.inl (((2 * (if 0 ≤ r21 then r21 else -r21)) - (s 1212))))], [], n, D, s, p, c) _
      refine tt_k 2 (S' := (37, [some (.inr (.inl 12)), some (.inl x), some (.inl r21), some (.inl (((2 * (if 0 ≤ r21 then r21 else -r21)) - (s 1212))))], [.inl (s 1216)], n, D, s, p, c)) rfl ?_
      refine tz_ne (x := (s 1216)) rfl rfl (by omega) (fun h102 => ?_) (fun h102 => ?_)
      · show tt Zi d 69 (43, [some (.inr (.inl 12)), some (.inl x), some (.inl r21), some (.inl (((2 * (if 0 ≤ r21 then r21 else -r21)) - (s 1212))))], [], n, D, s, p, c) _
        exact K26 (((2 * (if 0 ≤ r21 then r21 else -r21)) - (s 1212)))  (by omega) (by unfold fN fA; (repeat' split) <;> omega) (trivial)
      · show tt Zi d 69 (40, [some (.inr (.inl 12)), some (.inl x), some (.inl r21), some (.inl (((2 * (if 0 ≤ r21 then r21 else -r21)) - (s 1212))))], [], n, D, s, p, c) _
        refine tt_k 1 (S' := (43, [some (.inr (.inl 12)), some (.inl x), some (.inl r21), some (.inl ((((2 * (if 0 ≤ r21 then r21 else -r21)) - (s 1212)) + (-1))))], [], n, D, s, p, c)) rfl ?_
        exact K26 ((((2 * (if 0 ≤ r21 then r21 else -r21)) - (s 1212)) + (-1)))  (by omega) (by unfold fN fA; (repeat' split) <;> omega) (trivial)
  · show tt Zi d 69 (22, [some (.inr (.inl 12)), some (.inl x), some (.inl r21), some (.inl (((2 * (if 0 ≤ r21 then r21 else -r21)) - (s 1212))))], [], n, D, s, p, c) _
    refine tt_k 2 (S' := (26, [some (.inr (.inl 12)), some (.inl x), some (.inl r21), some (.inl (((2 * (if 0 ≤ r21 then r21 else -r21)) - (s 1212))))], [.inl (s 1216)], n, D, s, p, c)) rfl ?_
    refine tz_ne (x := (s 1216)) rfl rfl (by omega) (fun h103 => ?_) (fun h103 => ?_)
    · show tt Zi d 69 (40, [some (.inr (.inl 12)), some (.inl x), some (.inl r21), some (.inl (((2 * (if 0 ≤ r21 then r21 else -r21)) - (s 1212))))], [], n, D, s, p, c) _
      refine tt_k 1 (S' := (43, [some (.inr (.inl 12)), some (.inl x), some (.inl r21), some (.inl ((((2 * (if 0 ≤ r21 then r21 else -r21)) - (s 1212)) + (-1))))], [], n, D, s, p, c)) rfl ?_
      exact K26 ((((2 * (if 0 ≤ r21 then r21 else -r21)) - (s 1212)) + (-1)))  (by omega) (by unfold fN fA; (repeat' split) <;> omega) (trivial)
    · show tt Zi d 69 (29, [some (.inr (.inl 12)), some (.inl x), some (.inl r21), some (.inl (((2 * (if 0 ≤ r21 then r21 else -r21)) - (s 1212))))], [], n, D, s, p, c) _
      refine tt_k 1 (S' := (30, [some (.inr (.inl 12)), some (.inl x), some (.inl r21), some (.inl (((2 * (if 0 ≤ r21 then r21 else -r21)) - (s 1212))))], [.inl r21], n, D, s, p, c)) rfl ?_
      refine tz_ge (x := r21) rfl rfl (by omega) (fun h104 => ?_) (fun h104 => ?_)
      · show tt Zi d 69 (43, [some (.inr (.inl 12)), some (.inl x), some (.inl r21), some (.inl (((2 * (if 0 ≤ r21 then r21 else -r21)) - (s 1212))))], [], n, D, s, p, c) _
        exact K26 (((2 * (if 0 ≤ r21 then r21 else -r21)) - (s 1212)))  (by omega) (by unfold fN fA; (repeat' split) <;> omega) (trivial)
      · exfalso; omega
set_option maxRecDepth 100000 in
set_option maxHeartbeats 4000000 in
theorem e_setRun_L2 {g : Nat → Int} {Zi : Nat → Option (Nat × (Nat → Int))} {d n q : Nat} {D : Nat → Nat × Nat} {s : Nat → Int} {p : Nat → Nat} {c : Nat → Nat → Int}  {Q : mi_Rs → mi_H → Prop} (hd : 0 ≤ d) (hz : zk Zi) (hq : q + 0 ≤ 400001) (hD : wd n p) (hS : bS s) (hC : bC D c) (hW : wp q g n D p s) (x : Int) (n_ : Int) (b_x : 0 ≤ x ∧ x ≤ 64) (b_n_ : 0 ≤ n_ ∧ n_ ≤ 64) (hq0 : x + n_ ≤ 65)
  (hK : ∀ (i : Int) (c0 : Nat → Nat → Int) (b_i : 1 ≤ i ∧ i ≤ 65) (hC0 : bC D c0) (hK0 : fk p c n p c0 [1204]) (i0 : i ≤ n_ + 1) (i1 : c0 (p 1204) = fil (c (p 1204)) (x + 1).toNat (i - 1) (s 1208)), (n_ < i) → tt Zi d 63 (25, [some (.inr (.inl 12)), some (.inl x), some (.inl n_), some (.inl i)], [], n, D, s, p, c0) Q) :
  ∀ (m : Nat) (i : Int) (c0 : Nat → Nat → Int) (b_i : 1 ≤ i ∧ i ≤ 65) (hC0 : bC D c0) (hK0 : fk p c n p c0 [1204]) (i0 : i ≤ n_ + 1) (i1 : c0 (p 1204) = fil (c (p 1204)) (x + 1).toNat (i - 1) (s 1208)), (n_ + 1 - i).toNat < m → tt Zi d 63 (2, [some (.inr (.inl 12)), some (.inl x), some (.inl n_), some (.inl i)], [], n, D, s, p, c0) Q := by
  intro m
  induction m with
  | zero => intro i c0 b_i hC0 hK0 i0 i1 hm; exact absurd hm (by omega)
  | succ m ih =>
    intro i c0 b_i hC0 hK0 i0 i1 hm
    refine tt_k 2 (S' := (4, [some (.inr (.inl 12)), some (.inl x), some (.inl n_), some (.inl i)], [.inl n_, .inl i], n, D, s, p, c0)) rfl ?_
    refine tb_gt (x := i) (y := n_) rfl rfl (by omega) (fun h1 => ?_) (fun h1 => ?_)
    · show tt Zi d 63 (25, [some (.inr (.inl 12)), some (.inl x), some (.inl n_), some (.inl i)], [], n, D, s, p, c0) _
      exact hK i c0 (by omega) hC0 hK0 i0 i1 (by omega)
    · show tt Zi d 63 (7, [some (.inr (.inl 12)), some (.inl x), some (.inl n_), some (.inl i)], [], n, D, s, p, c0) _
      refine tt_k 7 (S' := (18, [some (.inr (.inl 12)), some (.inl x), some (.inl n_), some (.inl i)], [.inl (s 1208), .inl (x + i), .inr (.inl (p 1204))], n, D, s, p, c0)) rfl ?_
      have b2 : 0 ≤ (s 1208) ∧ (s 1208) ≤ 65535 := hS 1208
      refine tt_isb (i := (x + i)) (m := 66) (lo := 0) (hi := 65535) (x := (s 1208)) rfl ((sw_arr (hW).a12 rfl rfl).2) (by omega) hC0 ((sw_12 (hW).a12).2) (by omega) ?_
      intro c3 hC3 ec3
      show tt Zi d 63 (19, [some (.inr (.inl 12)), some (.inl x), some (.inl n_), some (.inl i)], [], n, D, s, p, c3) _
      have FK4 : fk p c n p c3 [1204] := fk_st (k := 1204) hK0 ec3 (by decide) rfl
      refine tt_k 2 (S' := (2, [some (.inr (.inl 12)), some (.inl x), some (.inl n_), some (.inl (i + 1))], [], n, D, s, p, c3)) rfl ?_
      exact ih (i + 1) c3 (by omega) hC3 FK4 (show (i + 1) ≤ n_ + 1 by omega) (by rw [ec3, uc_eq, i1, fil_s (by omega) (by omega)]) (show (n_ + 1 - (i + 1)).toNat < m by omega)
set_option maxRecDepth 100000 in
set_option maxHeartbeats 4000000 in
theorem e_setRun {g : Nat → Int} {Zi : Nat → Option (Nat × (Nat → Int))} {d n q : Nat} {D : Nat → Nat × Nat} {s : Nat → Int} {p : Nat → Nat} {c : Nat → Nat → Int} (hd : 0 ≤ d) (hz : zk Zi) (hq : q + 0 ≤ 400000) (hD : wd n p) (hS : bS s) (hC : bC D c) (hW : wp q g n D p s) (x : Int) (n_ : Int) (b_x : 0 ≤ x ∧ x ≤ 64) (b_n_ : 0 ≤ n_ ∧ n_ ≤ 64) (hp0 : x + n_ ≤ 65) : tt Zi d 63 (0, [some (.inr (.inl 12)), some (.inl x), some (.inl n_), none], [], n, D, s, p, c) (fun R H => ∃ (c' : Nat → Nat → Int), R = .inl none ∧ H = (n, D, s, p, c') ∧ bC D c' ∧ fk p c n p c' [1204] ∧ (rwh (fil (c (p 1204)) (x + 1).toNat n_ (s 1208)) (c' (p 1204)))) := by
  refine tt_k 2 (S' := (2, [some (.inr (.inl 12)), some (.inl x), some (.inl n_), some (.inl 1)], [], n, D, s, p, c)) rfl ?_
  refine e_setRun_L2 (Zi := Zi) (q := q) (n := n) (D := D) (s := s) (p := p) (c := c) hd hz (by omega) hD hS hC hW  x n_ (by omega) (by omega) (show x + n_ ≤ 65 by omega)  ?_ _ 1 c (by omega) hC (fk_rf hD) (show 1 ≤ n_ + 1 by omega) fil_0.symm (Nat.lt_succ_self _)
  intro x1 c2 b3 hC2 kf4 i5 i6 hx7
  show tt Zi d 63 (25, [some (.inr (.inl 12)), some (.inl x), some (.inl n_), some (.inl x1)], [], n, D, s, p, c2) _
  have FK8 : fk p c n p c2 [1204] := fk_tr (fk_rf hD) kf4 (by decide)
  replace i5 : x1 ≤ n_ + 1 := i5
  replace hx7 : n_ < x1 := hx7
  exact tt_rtv rfl rfl ⟨c2, rfl, rfl, hC2, FK8, by show rwh (fil (c (p 1204)) (x + 1).toNat n_ (s 1208)) (c2 (p 1204)); rw [← (show x1 - 1 = n_ by omega)]; exact i6⟩
set_option maxRecDepth 100000 in
set_option maxHeartbeats 4000000 in
theorem e_runLength_L2 {g : Nat → Int} {Zi : Nat → Option (Nat × (Nat → Int))} {d n q : Nat} {D : Nat → Nat × Nat} {s : Nat → Int} {p : Nat → Nat} {c : Nat → Nat → Int}  {Q : mi_Rs → mi_H → Prop} (hd : 0 ≤ d) (hz : zk Zi) (hq : q + 0 ≤ 400001) (hD : wd n p) (hS : bS s) (hC : bC D c) (hW : wp q g n D p s) (Z : Nat → Int) (S : Int → Int) (R : Int) (x : Int) (b_x : 0 ≤ x ∧ x ≤ 63) (hq0 : s 1207 + s 1206 ≤ (ln D (p 1205) : Int)) (hq1 : smc S (s 1207) (s 1206) (c (p 1205))) (hq2 : s 801 = Z 3018)
  (hK : ∀ (n_ : Int) (b_n_ : 0 ≤ n_ ∧ n_ ≤ 64) (i0 : x + n_ ≤ s 1206) (i1 : rN S (s 1208) (Z 3018) (s 1206) (65 - n_).toNat x n_ = R), (R = n_) → tt Zi d 62 (49, [some (.inr (.inl 12)), some (.inl x), some (.inl n_)], [], n, D, s, p, c) Q) :
  ∀ (m : Nat) (n_ : Int) (b_n_ : 0 ≤ n_ ∧ n_ ≤ 64) (i0 : x + n_ ≤ s 1206) (i1 : rN S (s 1208) (Z 3018) (s 1206) (65 - n_).toNat x n_ = R), (s 1206 - x - n_).toNat < m → tt Zi d 62 (2, [some (.inr (.inl 12)), some (.inl x), some (.inl n_)], [], n, D, s, p, c) Q := by
  intro m
  induction m with
  | zero => intro n_ b_n_ i0 i1 hm; exact absurd hm (by omega)
  | succ m ih =>
    intro n_ b_n_ i0 i1 hm
    have b1 : ln D (p 1205) ≤ 12288 := (hW).s12.2.2
    have b2 : 0 ≤ (s 1206) ∧ (s 1206) ≤ 64 := hS 1206
    have b3 : 0 ≤ (s 1207) ∧ (s 1207) ≤ 12288 := hS 1207
    have b4 : -2147483648 ≤ (s 801) ∧ (s 801) ≤ 2147483647 := hS 801
    refine tt_k 5 (S' := (9, [some (.inr (.inl 12)), some (.inl x), some (.inl n_)], [.inl (s 1206), .inl (x + n_)], n, D, s, p, c)) rfl ?_
    refine tb_ge (x := (x + n_)) (y := (s 1206)) rfl rfl (by omega) (fun h5 => ?_) (fun h5 => ?_)
    · show tt Zi d 62 (49, [some (.inr (.inl 12)), some (.inl x), some (.inl n_)], [], n, D, s, p, c) _
      exact hK n_ (by omega) (show x + n_ ≤ s 1206 by omega) i1 (rN_e i1 (by omega) (fun h => absurd h.1 (by omega)))
    · show tt Zi d 62 (12, [some (.inr (.inl 12)), some (.inl x), some (.inl n_)], [], n, D, s, p, c) _
      refine tt_k 8 (S' := (24, [some (.inr (.inl 12)), some (.inl x), some (.inl n_)], [.inl ((((s 1207) + x) + n_)), .inr (.inl (p 1205))], n, D, s, p, c)) rfl ?_
      refine tt_ilb (i := (((s 1207) + x) + n_)) (m := (ln D (p 1205))) (lo := 0) (hi := 65535) rfl ((hW).s12.1) (by omega) hC ((hW).s12.2.1) ?_
      intro v6 b7 hvv6
      show tt Zi d 62 (25, [some (.inr (.inl 12)), some (.inl x), some (.inl n_)], [.inl v6], n, D, s, p, c) _
      have hsv : v6 = S (x + n_) := by rw [← hvv6, show (((s 1207) + x) + n_) = s 1207 + (x + n_) by omega]; exact hq1 (x + n_) (by omega) (by omega)
      refine tt_k 3 (S' := (30, [some (.inr (.inl 12)), some (.inl x), some (.inl n_)], [.inl (v6 - (s 1208))], n, D, s, p, c)) rfl ?_
      have b8 : 0 ≤ (s 1208) ∧ (s 1208) ≤ 65535 := hS 1208
      refine tt_abs (k := 0) (x := (v6 - (s 1208))) rfl rfl (Nat.le_of_ble_eq_true rfl) (by omega) ?_
      show tt Zi d 62 (33, [some (.inr (.inl 12)), some (.inl x), some (.inl n_)], [.inl ((if 0 ≤ (v6 - (s 1208)) then (v6 - (s 1208)) else -(v6 - (s 1208))))], n, D, s, p, c) _
      refine tt_k 3 (S' := (40, [some (.inr (.inl 12)), some (.inl x), some (.inl n_)], [.inl (s 801), .inl ((if 0 ≤ (v6 - (s 1208)) then (v6 - (s 1208)) else -(v6 - (s 1208))))], n, D, s, p, c)) rfl ?_
      refine tb_gt (x := (if 0 ≤ (v6 - (s 1208)) then (v6 - (s 1208)) else -(v6 - (s 1208)))) (y := (s 801)) rfl rfl (by omega) (fun h9 => ?_) (fun h9 => ?_)
      · show tt Zi d 62 (49, [some (.inr (.inl 12)), some (.inl x), some (.inl n_)], [], n, D, s, p, c) _
        exact hK n_ (by omega) (show x + n_ ≤ s 1206 by omega) i1 (rN_e i1 (by omega) (fun h => by have h2 := h.2; unfold fA at h2; rw [← hsv] at h2; omega))
      · show tt Zi d 62 (43, [some (.inr (.inl 12)), some (.inl x), some (.inl n_)], [], n, D, s, p, c) _
        refine tt_k 2 (S' := (2, [some (.inr (.inl 12)), some (.inl x), some (.inl (n_ + 1))], [], n, D, s, p, c)) rfl ?_
        exact ih (n_ + 1) (by omega) (show x + (n_ + 1) ≤ s 1206 by omega) (rN_s i1 (by omega) (by omega) ⟨by omega, by unfold fA; rw [← hsv]; omega⟩) (show (s 1206 - x - (n_ + 1)).toNat < m by omega)
set_option maxRecDepth 100000 in
set_option maxHeartbeats 4000000 in
theorem e_runLength {g : Nat → Int} {Zi : Nat → Option (Nat × (Nat → Int))} {d n q : Nat} {D : Nat → Nat × Nat} {s : Nat → Int} {p : Nat → Nat} {c : Nat → Nat → Int} (hd : 0 ≤ d) (hz : zk Zi) (hq : q + 0 ≤ 400000) (hD : wd n p) (hS : bS s) (hC : bC D c) (hW : wp q g n D p s) (Z : Nat → Int) (S : Int → Int) (x : Int) (b_x : 0 ≤ x ∧ x ≤ 63) (hp0 : s 1207 + s 1206 ≤ (ln D (p 1205) : Int)) (hp1 : x < s 1206) (hp2 : zq Z (s 800) (s 801) (s 802) (s 803) (s 804) (s 805) (s 806) (s 807) (s 808) (s 809)) (hp3 : smc S (s 1207) (s 1206) (c (p 1205))) : tt Zi d 62 (0, [some (.inr (.inl 12)), some (.inl x), none], [], n, D, s, p, c) (fun R H => ∃ (r : Int), R = .inl (some (.inl r)) ∧ H = (n, D, s, p, c) ∧ (0 ≤ r ∧ r ≤ 64) ∧ (x + r ≤ s 1206) ∧ (r = rN S (s 1208) (Z 3018) (s 1206) 65 x 0)) := by
  have b1 : ln D (p 1205) ≤ 12288 := (hW).s12.2.2
  have b2 : 0 ≤ (s 1206) ∧ (s 1206) ≤ 64 := hS 1206
  have b3 : 0 ≤ (s 1207) ∧ (s 1207) ≤ 12288 := hS 1207
  have hzq := hp2
  obtain ⟨z0, z1, z2, z3, z4, z5, z6, z7, z8, z9⟩ := hzq
  refine tt_k 2 (S' := (2, [some (.inr (.inl 12)), some (.inl x), some (.inl 0)], [], n, D, s, p, c)) rfl ?_
  have b4 : -2147483648 ≤ (s 801) ∧ (s 801) ≤ 2147483647 := hS 801
  refine e_runLength_L2 (Zi := Zi) (q := q) (n := n) (D := D) (s := s) (p := p) (c := c) hd hz (by omega) hD hS hC hW Z S (rN S (s 1208) (Z 3018) (s 1206) 65 x 0) x (by omega) (show (s 1207) + (s 1206) ≤ (ln D (p 1205) : Int) by omega) hp3 z1  ?_ _ 0 (by omega) (show x + 0 ≤ (s 1206) by omega) rfl (Nat.lt_succ_self _)
  intro x5 b6 i7 i8 hx9
  show tt Zi d 62 (49, [some (.inr (.inl 12)), some (.inl x), some (.inl x5)], [], n, D, s, p, c) _
  replace i7 : x + x5 ≤ (s 1206) := i7
  replace i8 : rN S ((s 1208)) (Z 3018) ((s 1206)) (65 - x5).toNat x x5 = (rN S (s 1208) (Z 3018) (s 1206) 65 x 0) := i8
  replace hx9 : (rN S (s 1208) (Z 3018) (s 1206) 65 x 0) = x5 := hx9
  refine tt_k 1 (S' := (50, [some (.inr (.inl 12)), some (.inl x), some (.inl x5)], [.inl x5], n, D, s, p, c)) rfl ?_
  exact tt_rti rfl rfl ⟨x5, rfl, rfl, by omega, by show x + x5 ≤ s 1206; omega, by show x5 = rN S (s 1208) (Z 3018) (s 1206) 65 x 0; rw [hx9]⟩
set_option maxRecDepth 100000 in
set_option maxHeartbeats 4000000 in
theorem e_tellRun_L25 {g : Nat → Int} {Zi : Nat → Option (Nat × (Nat → Int))} {d n q : Nat} {D : Nat → Nat × Nat} {s : Nat → Int} {p : Nat → Nat} {c : Nat → Nat → Int}  {Q : mi_Rs → mi_H → Prop} (hd : 3 ≤ d) (hz : zk Zi) (hq : q + 6 ≤ 400001) (hD : wd n p) (hS : bS s) (hC : bC D c) (hW : wp q g n D p s) (U : Int) (R : Int × Int × WT) (x : Int) (n_ : Int) (b_x : 0 ≤ x ∧ x ≤ 63) (b_n_ : 0 ≤ n_ ∧ n_ ≤ 64) (hq0 : U + 64 ≤ 1834990)
  (hK : ∀ (le : Int) (do_ : Int) (n0 : Nat) (D0 : Nat → Nat × Nat) (s0 : Nat → Int) (p0 : Nat → Nat) (c0 : Nat → Nat → Int) (b_le : 0 ≤ le ∧ le ≤ 64) (b_do_ : 1 ≤ do_ ∧ do_ ≤ 32768) (hS0 : bS s0) (hF0 : fr s s0 [401, 902, 1601, 1602]) (hC0 : bC D0 c0) (hW0 : wp q g n0 D0 p0 s0) (hP0 : frp p p0 [400]) (hE0 : ext n D n0 D0) (hK0 : fk p c n0 p0 c0 [400]) (hc_wo : wo s0) (i0 : 7 * s0 401 - s0 1602 + le ≤ U) (i1 : rLp le (s0 902) R (s0 401) (s0 1601) (s0 1602) (c0 (p0 400))) (i2 : do_ = 2 ^ (jj (s0 902)).toNat) (i3 : 0 ≤ s0 902 ∧ s0 902 ≤ 22), (le < do_) → tt Zi d 61 (66, [some (.inr (.inl 12)), some (.inl x), some (.inl n_), some (.inl le), some (.inl do_)], [], n0, D0, s0, p0, c0) Q) :
  ∀ (m : Nat) (le : Int) (do_ : Int) (n0 : Nat) (D0 : Nat → Nat × Nat) (s0 : Nat → Int) (p0 : Nat → Nat) (c0 : Nat → Nat → Int) (b_le : 0 ≤ le ∧ le ≤ 64) (b_do_ : 1 ≤ do_ ∧ do_ ≤ 32768) (hS0 : bS s0) (hF0 : fr s s0 [401, 902, 1601, 1602]) (hC0 : bC D0 c0) (hW0 : wp q g n0 D0 p0 s0) (hP0 : frp p p0 [400]) (hE0 : ext n D n0 D0) (hK0 : fk p c n0 p0 c0 [400]) (hc_wo : wo s0) (i0 : 7 * s0 401 - s0 1602 + le ≤ U) (i1 : rLp le (s0 902) R (s0 401) (s0 1601) (s0 1602) (c0 (p0 400))) (i2 : do_ = 2 ^ (jj (s0 902)).toNat) (i3 : 0 ≤ s0 902 ∧ s0 902 ≤ 22), le.toNat < m → tt Zi d 61 (25, [some (.inr (.inl 12)), some (.inl x), some (.inl n_), some (.inl le), some (.inl do_)], [], n0, D0, s0, p0, c0) Q := by
  intro m
  induction m with
  | zero => intro le do_ n0 D0 s0 p0 c0 b_le b_do_ hS0 hF0 hC0 hW0 hP0 hE0 hK0 hc_wo i0 i1 i2 i3 hm; exact absurd hm (by omega)
  | succ m ih =>
    intro le do_ n0 D0 s0 p0 c0 b_le b_do_ hS0 hF0 hC0 hW0 hP0 hE0 hK0 hc_wo i0 i1 i2 i3 hm
    have e1 : s0 1206 = s 1206 := hF0 1206 (by decide)
    have b2 : 0 ≤ (s0 1206) ∧ (s0 1206) ≤ 64 := hS0 1206
    have b3 : 0 ≤ (s 1206) ∧ (s 1206) ≤ 64 := hS 1206
    obtain ⟨W1, m1, hm1, hw1, hr1⟩ := i1
    have hjb := jj_bd i3
    have hj7 := jj_7 (p := s0 902) i3
    refine tt_k 2 (S' := (28, [some (.inr (.inl 12)), some (.inl x), some (.inl n_), some (.inl le), some (.inl do_)], [.inl do_, .inl le], n0, D0, s0, p0, c0)) rfl ?_
    refine tb_lt (x := le) (y := do_) rfl rfl (by omega) (fun h4 => ?_) (fun h4 => ?_)
    · show tt Zi d 61 (66, [some (.inr (.inl 12)), some (.inl x), some (.inl n_), some (.inl le), some (.inl do_)], [], n0, D0, s0, p0, c0) _
      exact hK le do_ n0 D0 s0 p0 c0 (by omega) (by omega) hS0 hF0 hC0 hW0 hP0 hE0 hK0 hc_wo (show 7 * (s0 401) - (s0 1602) + le ≤ U by omega) ⟨W1, m1, hm1, hw1, hr1⟩ i2 i3 (by omega)
    · show tt Zi d 61 (31, [some (.inr (.inl 12)), some (.inl x), some (.inl n_), some (.inl le), some (.inl do_)], [], n0, D0, s0, p0, c0) _
      refine tt_k 4 (S' := (37, [some (.inr (.inl 12)), some (.inl x), some (.inl n_), some (.inl le), some (.inl do_)], [.inl 1, .inl 1, .inr (.inl 16)], n0, D0, s0, p0, c0)) rfl ?_
      have b5 : 0 ≤ (s0 401) ∧ (s0 401) ≤ 262144 := hS0 401
      have b6 : 1 ≤ (s0 1602) ∧ (s0 1602) ≤ 8 := hS0 1602
      have b7 : 0 ≤ (s0 1601) ∧ (s0 1601) ≤ 255 := hS0 1601
      refine tt_cl (by omega) rfl (e_write (Zi := Zi) (q := q) (n := n0) (D := D0) (s := s0) (p := p0) (c := c0) (by omega) hz (by omega) hK0.1 hS0 hC0 hW0 W1 1 1 (by omega) (by omega) hc_wo (show 7 * (s0 401) - (s0 1602) + 64 ≤ 1834990 by omega) (show 1 ≤ 32 ∨ 1 = 0 by omega) hw1) ?_
      rintro _ _ ⟨n8, D9, s10, p11, c12, rfl, rfl, hS10, hC12, hW13, f14, g15, xe16, kf17, k18, k19, k20⟩
      have FK21 : fk p c n8 p11 c12 [400] := fk_tr hK0 kf17 (by decide)
      show tt Zi d 61 (40, [some (.inr (.inl 12)), some (.inl x), some (.inl n_), some (.inl le), some (.inl do_)], [], n8, D9, s10, p11, c12) _
      replace k19 : 7 * (s10 401) - (s10 1602) ≤ 7 * (s0 401) - (s0 1602) + 1 := k19
      have b22 : 0 ≤ (s10 401) ∧ (s10 401) ≤ 262144 := hS10 401
      have b23 : 1 ≤ (s10 1602) ∧ (s10 1602) ≤ 8 := hS10 1602
      have b24 : 0 ≤ (s10 1601) ∧ (s10 1601) ≤ 255 := hS10 1601
      have e25 : s10 1206 = (s0 1206) := (f14 1206 (by decide))
      have b26 : 0 ≤ (s10 1206) ∧ (s10 1206) ≤ 64 := hS10 1206
      have e27 : s10 902 = (s0 902) := (f14 902 (by decide))
      have b28 : 0 ≤ (s10 902) ∧ (s10 902) ≤ 31 := hS10 902
      have b29 : 0 ≤ (s0 902) ∧ (s0 902) ≤ 31 := hS0 902
      refine tt_k 6 (S' := (49, [some (.inr (.inl 12)), some (.inl x), some (.inl n_), some (.inl (le - do_)), some (.inl do_)], [.inr (.inl 9)], n8, D9, s10, p11, c12)) rfl ?_
      refine tt_cl (by omega) rfl (e_quicken (Zi := Zi) (q := q) (n := n8) (D := D9) (s := s10) (p := p11) (c := c12) (by omega) hz (by omega) FK21.1 hS10 hC12 hW13 ) ?_
      rintro _ _ ⟨s30, rfl, rfl, hS30, hW31, f32, k33⟩
      have hc34 : wo s30 := wo_fr f32 (by decide) k18
      show tt Zi d 61 (52, [some (.inr (.inl 12)), some (.inl x), some (.inl n_), some (.inl (le - do_)), some (.inl do_)], [], n8, D9, s30, p11, c12) _
      replace k33 : (s30 902) = min 31 ((s10 902) + 1) := k33
      have b35 : 0 ≤ (s30 902) ∧ (s30 902) ≤ 31 := hS30 902
      have e36 : s30 401 = (s10 401) := (f32 401 (by decide))
      have b37 : 0 ≤ (s30 401) ∧ (s30 401) ≤ 262144 := hS30 401
      have e38 : s30 1602 = (s10 1602) := (f32 1602 (by decide))
      have b39 : 1 ≤ (s30 1602) ∧ (s30 1602) ≤ 8 := hS30 1602
      have e40 : s30 1206 = (s10 1206) := (f32 1206 (by decide))
      have b41 : 0 ≤ (s30 1206) ∧ (s30 1206) ≤ 64 := hS30 1206
      have hx42 : wrl (wBits (1 : Int).toNat 1 W1) (s30 401) (s30 1601) (s30 1602) (c12 (p11 400)) := by rw [f32 401 (by decide), f32 1601 (by decide), f32 1602 (by decide)]; exact k20
      refine tt_k 3 (S' := (57, [some (.inr (.inl 12)), some (.inl x), some (.inl n_), some (.inl (le - do_)), some (.inl do_)], [.inr (.inl 9), .inl 1], n8, D9, s30, p11, c12)) rfl ?_
      refine tt_cl (by omega) rfl (e_runBits (Zi := Zi) (q := q) (n := n8) (D := D9) (s := s30) (p := p11) (c := c12) (by omega) hz (by omega) FK21.1 hS30 hC12 hW31 ) ?_
      rintro _ _ ⟨r43, rfl, rfl, b44, k45⟩
      show tt Zi d 61 (60, [some (.inr (.inl 12)), some (.inl x), some (.inl n_), some (.inl (le - do_)), some (.inl do_)], [.inl r43, .inl 1], n8, D9, s30, p11, c12) _
      replace k45 : r43 = jj ((s30 902)) := k45
      refine tt_k 3 (S' := (25, [some (.inr (.inl 12)), some (.inl x), some (.inl n_), some (.inl (le - do_)), some (.inl (mi_shl 1 r43))], [], n8, D9, s30, p11, c12)) rfl ?_
      have e46 : 1 ≤ (mi_shl 1 r43) ∧ (mi_shl 1 r43) ≤ 32768 := mi_shl1b 0 15 (by omega) (by omega) (by decide)
      have hj6 := jj_le6 i3 (by omega)
      have hpn : (s30 902) = s0 902 + 1 := by omega
      obtain ⟨m2, hm2, hr2⟩ := rP_s hr1 hm1 (by omega)
      have hcx := hx42
      rw [wB11] at hcx
      exact ih (le - do_) (mi_shl 1 r43) n8 D9 s30 p11 c12 (by omega) (by omega) hS30 (fr_tr (fr_tr hF0 f14 (by decide)) f32 (by decide)) hC12 hW31 (frp_tr hP0 g15 (by decide)) (ext_tr hE0 xe16) FK21 hc34 (show 7 * (s30 401) - (s30 1602) + (le - do_) ≤ U by omega) ⟨_, m2, (by rw [i2]; exact hm2), hcx, (by rw [hpn, i2]; rw [show min 31 (s0 902 + 1) = s0 902 + 1 by omega] at hr2; exact hr2)⟩ (by rw [k45]; exact mi_shl1i (by omega) (by omega)) (show 0 ≤ (s30 902) ∧ (s30 902) ≤ 22 by omega) (show (le - do_).toNat < m by omega)
set_option maxRecDepth 100000 in
set_option maxHeartbeats 4000000 in
theorem e_tellRun {g : Nat → Int} {Zi : Nat → Option (Nat × (Nat → Int))} {d n q : Nat} {D : Nat → Nat × Nat} {s : Nat → Int} {p : Nat → Nat} {c : Nat → Nat → Int} (hd : 3 ≤ d) (hz : zk Zi) (hq : q + 6 ≤ 400000) (hD : wd n p) (hS : bS s) (hC : bC D c) (hW : wp q g n D p s) (Z : Nat → Int) (W : WT) (S : Int → Int) (x : Int) (b_x : 0 ≤ x ∧ x ≤ 63) (hp0 : wo s) (hp1 : 7 * s 401 - s 1602 + 300 ≤ 1834990) (hp2 : s 1207 + s 1206 ≤ (ln D (p 1205) : Int)) (hp3 : x < s 1206) (hp4 : zq Z (s 800) (s 801) (s 802) (s 803) (s 804) (s 805) (s 806) (s 807) (s 808) (s 809)) (hp5 : wrl W (s 401) (s 1601) (s 1602) (c (p 400))) (hp6 : smc S (s 1207) (s 1206) (c (p 1205))) (hp7 : 0 ≤ s 902 ∧ s 902 ≤ 22) : tt Zi d 61 (0, [some (.inr (.inl 12)), some (.inl x), none, none, none], [], n, D, s, p, c) (fun R H => ∃ (n' : Nat) (D' : Nat → Nat × Nat) (s' : Nat → Int) (p' : Nat → Nat) (c' : Nat → Nat → Int) (r : Int), R = .inl (some (.inl r)) ∧ H = (n', D', s', p', c') ∧ bS s' ∧ bC D' c' ∧ wp q g n' D' p' s' ∧ fr s s' [401, 902, 1601, 1602] ∧ frp p p' [400] ∧ ext n D n' D' ∧ fk p c n' p' c' [400, 1204] ∧ (0 ≤ r ∧ r ≤ 64) ∧ (wo s') ∧ (x + r ≤ s 1206) ∧ (7 * s' 401 - s' 1602 ≤ 7 * s 401 - s 1602 + r + 16) ∧ (r = rN S (s 1208) (Z 3018) (s 1206) 65 x 0) ∧ (s' 902 = (rP 65 r (s 902) W).2.1) ∧ (0 ≤ s' 902 ∧ s' 902 ≤ 22) ∧ (wrl (xW x r (s 1206) (rP 65 r (s 902) W)) (s' 401) (s' 1601) (s' 1602) (c' (p' 400))) ∧ (rwh (fil (c (p 1204)) (x + 1).toNat r (s 1208)) (c' (p' 1204)))) := by
  have hjb0 := jj_bd hp7
  have b1 : 0 ≤ (s 902) ∧ (s 902) ≤ 31 := hS 902
  refine tt_k 2 (S' := (2, [some (.inr (.inl 12)), some (.inl x), none, none, none], [.inl x, .inr (.inl 12)], n, D, s, p, c)) rfl ?_
  have b2 : 0 ≤ (s 1207) ∧ (s 1207) ≤ 12288 := hS 1207
  have b3 : 0 ≤ (s 1206) ∧ (s 1206) ≤ 64 := hS 1206
  have b4 : 0 ≤ (s 800) ∧ (s 800) ≤ 65535 := hS 800
  have b5 : -2147483648 ≤ (s 801) ∧ (s 801) ≤ 2147483647 := hS 801
  have b6 : -2147483648 ≤ (s 802) ∧ (s 802) ≤ 2147483647 := hS 802
  have b7 : -2147483648 ≤ (s 803) ∧ (s 803) ≤ 2147483647 := hS 803
  have b8 : -2147483648 ≤ (s 804) ∧ (s 804) ≤ 2147483647 := hS 804
  have b9 : 0 ≤ (s 805) ∧ (s 805) ≤ 65535 := hS 805
  have b10 : 1 ≤ (s 806) ∧ (s 806) ≤ 511 := hS 806
  have b11 : 0 ≤ (s 807) ∧ (s 807) ≤ 65536 := hS 807
  have b12 : 0 ≤ (s 808) ∧ (s 808) ≤ 30 := hS 808
  have b13 : 0 ≤ (s 809) ∧ (s 809) ≤ 64 := hS 809
  refine tt_cl (by omega) rfl (e_runLength (Zi := Zi) (q := q) (n := n) (D := D) (s := s) (p := p) (c := c) (by omega) hz (by omega) hD hS hC hW Z S x (by omega) (show (s 1207) + (s 1206) ≤ (ln D (p 1205) : Int) by omega) (show x < (s 1206) by omega) hp4 (show smc S ((s 1207)) ((s 1206)) ((c (p 1205))) by omega)) ?_
  rintro _ _ ⟨r14, rfl, rfl, b15, k16, k17⟩
  show tt Zi d 61 (5, [some (.inr (.inl 12)), some (.inl x), none, none, none], [.inl r14], n, D, s, p, c) _
  replace k16 : x + r14 ≤ (s 1206) := k16
  replace k17 : r14 = rN S ((s 1208)) (Z 3018) ((s 1206)) 65 x 0 := k17
  have b18 : 0 ≤ (s 1208) ∧ (s 1208) ≤ 65535 := hS 1208
  refine tt_k 4 (S' := (9, [some (.inr (.inl 12)), some (.inl x), some (.inl r14), none, none], [.inl r14, .inl x, .inr (.inl 12)], n, D, s, p, c)) rfl ?_
  refine tt_cl (by omega) rfl (e_setRun (Zi := Zi) (q := q) (n := n) (D := D) (s := s) (p := p) (c := c) (by omega) hz (by omega) hD hS hC hW x r14 (by omega) (by omega) (show x + r14 ≤ 65 by omega)) ?_
  rintro _ _ ⟨c19, rfl, rfl, hC19, kf20, k21⟩
  have FK22 : fk p c n p c19 [400, 1204] := fk_tr (fk_rf hD) kf20 (by decide)
  show tt Zi d 61 (12, [some (.inr (.inl 12)), some (.inl x), some (.inl r14), none, none], [], n, D, s, p, c19) _
  have hx23 : wrl W (s 401) (s 1601) (s 1602) (c19 (p 400)) := by rw [fk_k (k := 400) kf20 (by decide)]; exact hp5
  refine tt_k 5 (S' := (19, [some (.inr (.inl 12)), some (.inl x), some (.inl r14), some (.inl r14), none], [.inr (.inl 9), .inl 1], n, D, s, p, c19)) rfl ?_
  refine tt_cl (by omega) rfl (e_runBits (Zi := Zi) (q := q) (n := n) (D := D) (s := s) (p := p) (c := c19) (by omega) hz (by omega) FK22.1 hS hC19 hW ) ?_
  rintro _ _ ⟨r24, rfl, rfl, b25, k26⟩
  show tt Zi d 61 (22, [some (.inr (.inl 12)), some (.inl x), some (.inl r14), some (.inl r14), none], [.inl r24, .inl 1], n, D, s, p, c19) _
  replace k26 : r24 = jj ((s 902)) := k26
  refine tt_k 2 (S' := (25, [some (.inr (.inl 12)), some (.inl x), some (.inl r14), some (.inl r14), some (.inl (mi_shl 1 r24))], [], n, D, s, p, c19)) rfl ?_
  have e27 : 1 ≤ (mi_shl 1 r24) ∧ (mi_shl 1 r24) ≤ 32768 := mi_shl1b 0 15 (by omega) (by omega) (by decide)
  refine e_tellRun_L25 (Zi := Zi) (q := q) (n := n) (D := D) (s := s) (p := p) (c := c19) hd hz (by omega) FK22.1 hS hC19 hW (7 * s 401 - s 1602 + r14) (rP 65 r14 (s 902) W) x r14 (by omega) (by omega) (show (7 * s 401 - s 1602 + r14) + 64 ≤ 1834990 by omega)  ?_ _ r14 (mi_shl 1 r24) n D s p c19 (by omega) (by omega) hS fr_rf hC19 hW frp_rf ext_rf (fk_rf FK22.1) hp0 (show 7 * ((s 401)) - ((s 1602)) + r14 ≤ (7 * s 401 - s 1602 + r14) by omega) ⟨W, 65, (by omega), hx23, rfl⟩ (by rw [k26]; exact mi_shl1i (by omega) (by omega)) (show 0 ≤ ((s 902)) ∧ ((s 902)) ≤ 22 by omega) (Nat.lt_succ_self _)
  intro x28 x29 n30 D31 s32 p33 c34 b35 b36 hS32 f37 hC34 hW38 g39 xe40 kf41 hc42 i43 i44 i45 i46 hx47
  show tt Zi d 61 (66, [some (.inr (.inl 12)), some (.inl x), some (.inl r14), some (.inl x28), some (.inl x29)], [], n30, D31, s32, p33, c34) _
  have FK48 : fk p c n30 p33 c34 [400, 1204] := fk_tr FK22 kf41 (by decide)
  replace i43 : 7 * (s32 401) - (s32 1602) + x28 ≤ (7 * s 401 - s 1602 + r14) := i43
  have b49 : 0 ≤ (s32 401) ∧ (s32 401) ≤ 262144 := hS32 401
  have b50 : 1 ≤ (s32 1602) ∧ (s32 1602) ≤ 8 := hS32 1602
  replace i45 : x29 = 2 ^ (jj ((s32 902))).toNat := i45
  have b51 : 0 ≤ (s32 902) ∧ (s32 902) ≤ 31 := hS32 902
  replace i46 : 0 ≤ (s32 902) ∧ (s32 902) ≤ 22 := i46
  replace hx47 : x28 < x29 := hx47
  have e52 : s32 1206 = (s 1206) := (f37 1206 (by decide))
  have b53 : 0 ≤ (s32 1206) ∧ (s32 1206) ≤ 64 := hS32 1206
  have hx54 : zq Z (s32 800) (s32 801) (s32 802) (s32 803) (s32 804) (s32 805) (s32 806) (s32 807) (s32 808) (s32 809) := by rw [f37 800 (by decide), f37 801 (by decide), f37 802 (by decide), f37 803 (by decide), f37 804 (by decide), f37 805 (by decide), f37 806 (by decide), f37 807 (by decide), f37 808 (by decide), f37 809 (by decide)]; exact hp4
  have hx55 : rwh (fil ((c (p 1204))) (x + 1).toNat r14 ((s 1208))) (c34 (p33 1204)) := by rw [fk_k (k := 1204) kf41 (by decide)]; exact k21
  obtain ⟨W2, hw2, hR2⟩ := rLp_e i44 (by omega) (by omega)
  refine tt_k 5 (S' := (73, [some (.inr (.inl 12)), some (.inl x), some (.inl r14), some (.inl x28), some (.inl x29)], [.inl (s32 1206), .inl (x + r14)], n30, D31, s32, p33, c34)) rfl ?_
  refine tb_ge (x := (x + r14)) (y := (s32 1206)) rfl rfl (by omega) (fun h56 => ?_) (fun h56 => ?_)
  · show tt Zi d 61 (103, [some (.inr (.inl 12)), some (.inl x), some (.inl r14), some (.inl x28), some (.inl x29)], [], n30, D31, s32, p33, c34) _
    refine tt_k 1 (S' := (104, [some (.inr (.inl 12)), some (.inl x), some (.inl r14), some (.inl x28), some (.inl x29)], [.inl x28], n30, D31, s32, p33, c34)) rfl ?_
    refine tz_le (x := x28) rfl rfl (by omega) (fun h57 => ?_) (fun h57 => ?_)
    · show tt Zi d 61 (116, [some (.inr (.inl 12)), some (.inl x), some (.inl r14), some (.inl x28), some (.inl x29)], [], n30, D31, s32, p33, c34) _
      refine tt_k 1 (S' := (117, [some (.inr (.inl 12)), some (.inl x), some (.inl r14), some (.inl x28), some (.inl x29)], [.inl r14], n30, D31, s32, p33, c34)) rfl ?_
      exact tt_rti rfl rfl ⟨n30, D31, s32, p33, c34, r14, rfl, rfl, hS32, hC34, hW38, (fr_tr fr_rf f37 (by decide)), (frp_tr frp_rf g39 (by decide)), (ext_tr ext_rf xe40), FK48, by omega, hc42, by show x + r14 ≤ s 1206; omega, by show 7 * (s32 401) - (s32 1602) ≤ 7 * s 401 - s 1602 + r14 + 16; omega, by show r14 = rN S (s 1208) (Z 3018) (s 1206) 65 x 0; exact k17, by show (s32 902) = (rP 65 r14 (s 902) W).2.1; have e5 : (rP 65 r14 (s 902) W).2.1 = s32 902 := congrArg (fun P : Int × Int × WT => P.2.1) hR2; omega, by show 0 ≤ (s32 902) ∧ (s32 902) ≤ 22; omega, by show wrl (xW x r14 (s 1206) (rP 65 r14 (s 902) W)) ((s32 401)) ((s32 1601)) ((s32 1602)) (c34 (p33 400)); have h := hw2; rw [hR2]; unfold xW; rw [if_neg (by omega), if_neg (by show ¬ 0 < x28; omega)]; exact h, hx55⟩
    · show tt Zi d 61 (107, [some (.inr (.inl 12)), some (.inl x), some (.inl r14), some (.inl x28), some (.inl x29)], [], n30, D31, s32, p33, c34) _
      refine tt_k 4 (S' := (113, [some (.inr (.inl 12)), some (.inl x), some (.inl r14), some (.inl x28), some (.inl x29)], [.inl 1, .inl 1, .inr (.inl 16)], n30, D31, s32, p33, c34)) rfl ?_
      have b58 : 0 ≤ (s32 1601) ∧ (s32 1601) ≤ 255 := hS32 1601
      refine tt_cl (by omega) rfl (e_write (Zi := Zi) (q := q) (n := n30) (D := D31) (s := s32) (p := p33) (c := c34) (by omega) hz (by omega) FK48.1 hS32 hC34 hW38 W2 1 1 (by omega) (by omega) hc42 (show 7 * (s32 401) - (s32 1602) + 64 ≤ 1834990 by omega) (show 1 ≤ 32 ∨ 1 = 0 by omega) hw2) ?_
      rintro _ _ ⟨n59, D60, s61, p62, c63, rfl, rfl, hS61, hC63, hW64, f65, g66, xe67, kf68, k69, k70, k71⟩
      have FK72 : fk p c n59 p62 c63 [400, 1204] := fk_tr FK48 kf68 (by decide)
      show tt Zi d 61 (116, [some (.inr (.inl 12)), some (.inl x), some (.inl r14), some (.inl x28), some (.inl x29)], [], n59, D60, s61, p62, c63) _
      replace k70 : 7 * (s61 401) - (s61 1602) ≤ 7 * (s32 401) - (s32 1602) + 1 := k70
      have b73 : 0 ≤ (s61 401) ∧ (s61 401) ≤ 262144 := hS61 401
      have b74 : 1 ≤ (s61 1602) ∧ (s61 1602) ≤ 8 := hS61 1602
      have b75 : 0 ≤ (s61 1601) ∧ (s61 1601) ≤ 255 := hS61 1601
      have e76 : s61 1206 = (s32 1206) := (f65 1206 (by decide))
      have b77 : 0 ≤ (s61 1206) ∧ (s61 1206) ≤ 64 := hS61 1206
      have e78 : s61 902 = (s32 902) := (f65 902 (by decide))
      have b79 : 0 ≤ (s61 902) ∧ (s61 902) ≤ 31 := hS61 902
      have hx80 : zq Z (s61 800) (s61 801) (s61 802) (s61 803) (s61 804) (s61 805) (s61 806) (s61 807) (s61 808) (s61 809) := by rw [f65 800 (by decide), f65 801 (by decide), f65 802 (by decide), f65 803 (by decide), f65 804 (by decide), f65 805 (by decide), f65 806 (by decide), f65 807 (by decide), f65 808 (by decide), f65 809 (by decide)]; exact hx54
      have hx81 : rwh (fil ((c (p 1204))) (x + 1).toNat r14 ((s 1208))) (c63 (p62 1204)) := by rw [fk_k (k := 1204) kf68 (by decide)]; exact hx55
      refine tt_k 1 (S' := (117, [some (.inr (.inl 12)), some (.inl x), some (.inl r14), some (.inl x28), some (.inl x29)], [.inl r14], n59, D60, s61, p62, c63)) rfl ?_
      exact tt_rti rfl rfl ⟨n59, D60, s61, p62, c63, r14, rfl, rfl, hS61, hC63, hW64, (fr_tr (fr_tr fr_rf f37 (by decide)) f65 (by decide)), (frp_tr (frp_tr frp_rf g39 (by decide)) g66 (by decide)), (ext_tr (ext_tr ext_rf xe40) xe67), FK72, by omega, k69, by show x + r14 ≤ s 1206; omega, by show 7 * (s61 401) - (s61 1602) ≤ 7 * s 401 - s 1602 + r14 + 16; omega, by show r14 = rN S (s 1208) (Z 3018) (s 1206) 65 x 0; exact k17, by show (s61 902) = (rP 65 r14 (s 902) W).2.1; have e5 : (rP 65 r14 (s 902) W).2.1 = s32 902 := congrArg (fun P : Int × Int × WT => P.2.1) hR2; omega, by show 0 ≤ (s61 902) ∧ (s61 902) ≤ 22; omega, by show wrl (xW x r14 (s 1206) (rP 65 r14 (s 902) W)) ((s61 401)) ((s61 1601)) ((s61 1602)) (c63 (p62 400)); have h := k71; rw [wB11] at h; rw [hR2]; unfold xW; rw [if_neg (by omega), if_pos (by show 0 < x28; omega)]; exact h, hx81⟩
  · show tt Zi d 61 (76, [some (.inr (.inl 12)), some (.inl x), some (.inl r14), some (.inl x28), some (.inl x29)], [], n30, D31, s32, p33, c34) _
    refine tt_k 4 (S' := (82, [some (.inr (.inl 12)), some (.inl x), some (.inl r14), some (.inl x28), some (.inl x29)], [.inl 1, .inl 0, .inr (.inl 16)], n30, D31, s32, p33, c34)) rfl ?_
    have b82 : 0 ≤ (s32 1601) ∧ (s32 1601) ≤ 255 := hS32 1601
    refine tt_cl (by omega) rfl (e_write (Zi := Zi) (q := q) (n := n30) (D := D31) (s := s32) (p := p33) (c := c34) (by omega) hz (by omega) FK48.1 hS32 hC34 hW38 W2 0 1 (by omega) (by omega) hc42 (show 7 * (s32 401) - (s32 1602) + 64 ≤ 1834990 by omega) (show 1 ≤ 32 ∨ 0 = 0 by omega) hw2) ?_
    rintro _ _ ⟨n83, D84, s85, p86, c87, rfl, rfl, hS85, hC87, hW88, f89, g90, xe91, kf92, k93, k94, k95⟩
    have FK96 : fk p c n83 p86 c87 [400, 1204] := fk_tr FK48 kf92 (by decide)
    show tt Zi d 61 (85, [some (.inr (.inl 12)), some (.inl x), some (.inl r14), some (.inl x28), some (.inl x29)], [], n83, D84, s85, p86, c87) _
    replace k94 : 7 * (s85 401) - (s85 1602) ≤ 7 * (s32 401) - (s32 1602) + 1 := k94
    have b97 : 0 ≤ (s85 401) ∧ (s85 401) ≤ 262144 := hS85 401
    have b98 : 1 ≤ (s85 1602) ∧ (s85 1602) ≤ 8 := hS85 1602
    have b99 : 0 ≤ (s85 1601) ∧ (s85 1601) ≤ 255 := hS85 1601
    have e100 : s85 1206 = (s32 1206) := (f89 1206 (by decide))
    have b101 : 0 ≤ (s85 1206) ∧ (s85 1206) ≤ 64 := hS85 1206
    have e102 : s85 902 = (s32 902) := (f89 902 (by decide))
    have b103 : 0 ≤ (s85 902) ∧ (s85 902) ≤ 31 := hS85 902
    have hx104 : zq Z (s85 800) (s85 801) (s85 802) (s85 803) (s85 804) (s85 805) (s85 806) (s85 807) (s85 808) (s85 809) := by rw [f89 800 (by decide), f89 801 (by decide), f89 802 (by decide), f89 803 (by decide), f89 804 (by decide), f89 805 (by decide), f89 806 (by decide), f89 807 (by decide), f89 808 (by decide), f89 809 (by decide)]; exact hx54
    have hx105 : rwh (fil ((c (p 1204))) (x + 1).toNat r14 ((s 1208))) (c87 (p86 1204)) := by rw [fk_k (k := 1204) kf92 (by decide)]; exact hx55
    refine tt_k 5 (S' := (94, [some (.inr (.inl 12)), some (.inl x), some (.inl r14), some (.inl x28), some (.inl x29)], [.inr (.inl 9), .inl x28, .inr (.inl 16)], n83, D84, s85, p86, c87)) rfl ?_
    refine tt_cl (by omega) rfl (e_runBits (Zi := Zi) (q := q) (n := n83) (D := D84) (s := s85) (p := p86) (c := c87) (by omega) hz (by omega) FK96.1 hS85 hC87 hW88 ) ?_
    rintro _ _ ⟨r106, rfl, rfl, b107, k108⟩
    show tt Zi d 61 (97, [some (.inr (.inl 12)), some (.inl x), some (.inl r14), some (.inl x28), some (.inl x29)], [.inl r106, .inl x28, .inr (.inl 16)], n83, D84, s85, p86, c87) _
    replace k108 : r106 = jj ((s85 902)) := k108
    refine tt_cl (by omega) rfl (e_write (Zi := Zi) (q := q) (n := n83) (D := D84) (s := s85) (p := p86) (c := c87) (by omega) hz (by omega) FK96.1 hS85 hC87 hW88 (wBits (1 : Int).toNat 0 W2) x28 r106 (by omega) (by omega) k93 (show 7 * (s85 401) - (s85 1602) + 64 ≤ 1834990 by omega) (show r106 ≤ 32 ∨ x28 = 0 by omega) k95) ?_
    rintro _ _ ⟨n109, D110, s111, p112, c113, rfl, rfl, hS111, hC113, hW114, f115, g116, xe117, kf118, k119, k120, k121⟩
    have FK122 : fk p c n109 p112 c113 [400, 1204] := fk_tr FK96 kf118 (by decide)
    show tt Zi d 61 (100, [some (.inr (.inl 12)), some (.inl x), some (.inl r14), some (.inl x28), some (.inl x29)], [], n109, D110, s111, p112, c113) _
    replace k120 : 7 * (s111 401) - (s111 1602) ≤ 7 * (s85 401) - (s85 1602) + r106 := k120
    have b123 : 0 ≤ (s111 401) ∧ (s111 401) ≤ 262144 := hS111 401
    have b124 : 1 ≤ (s111 1602) ∧ (s111 1602) ≤ 8 := hS111 1602
    have b125 : 0 ≤ (s111 1601) ∧ (s111 1601) ≤ 255 := hS111 1601
    have e126 : s111 1206 = (s85 1206) := (f115 1206 (by decide))
    have b127 : 0 ≤ (s111 1206) ∧ (s111 1206) ≤ 64 := hS111 1206
    have e128 : s111 902 = (s85 902) := (f115 902 (by decide))
    have b129 : 0 ≤ (s111 902) ∧ (s111 902) ≤ 31 := hS111 902
    have hx130 : zq Z (s111 800) (s111 801) (s111 802) (s111 803) (s111 804) (s111 805) (s111 806) (s111 807) (s111 808) (s111 809) := by rw [f115 800 (by decide), f115 801 (by decide), f115 802 (by decide), f115 803 (by decide), f115 804 (by decide), f115 805 (by decide), f115 806 (by decide), f115 807 (by decide), f115 808 (by decide), f115 809 (by decide)]; exact hx104
    have hx131 : rwh (fil ((c (p 1204))) (x + 1).toNat r14 ((s 1208))) (c113 (p112 1204)) := by rw [fk_k (k := 1204) kf118 (by decide)]; exact hx105
    refine tt_k 2 (S' := (117, [some (.inr (.inl 12)), some (.inl x), some (.inl r14), some (.inl x28), some (.inl x29)], [.inl r14], n109, D110, s111, p112, c113)) rfl ?_
    exact tt_rti rfl rfl ⟨n109, D110, s111, p112, c113, r14, rfl, rfl, hS111, hC113, hW114, (fr_tr (fr_tr (fr_tr fr_rf f37 (by decide)) f89 (by decide)) f115 (by decide)), (frp_tr (frp_tr (frp_tr frp_rf g39 (by decide)) g90 (by decide)) g116 (by decide)), (ext_tr (ext_tr (ext_tr ext_rf xe40) xe91) xe117), FK122, by omega, k119, by show x + r14 ≤ s 1206; omega, by show 7 * (s111 401) - (s111 1602) ≤ 7 * s 401 - s 1602 + r14 + 16; omega, by show r14 = rN S (s 1208) (Z 3018) (s 1206) 65 x 0; exact k17, by show (s111 902) = (rP 65 r14 (s 902) W).2.1; have e5 : (rP 65 r14 (s 902) W).2.1 = s32 902 := congrArg (fun P : Int × Int × WT => P.2.1) hR2; omega, by show 0 ≤ (s111 902) ∧ (s111 902) ≤ 22; omega, by show wrl (xW x r14 (s 1206) (rP 65 r14 (s 902) W)) ((s111 401)) ((s111 1601)) ((s111 1602)) (c113 (p112 400)); have h := k121; rw [wB10, k108] at h; rw [hR2]; unfold xW; rw [if_pos (by omega)]; rw [show s85 902 = s32 902 by omega] at h; exact h, hx131⟩
