/-! the class reads bits and numbers, exactly -/
theorem rdBs_1 {A : TN} {d e : RDT} {b : Int} (h : rdBs A (1 : Int).toNat 0 d = some (b, e)) : rdBit A d = some (b, e) := by
  have h : (rdBit A d).bind (fun q => rdBs A 0 (2 * 0 + q.1) q.2) = some (b, e) := h
  cases hq : rdBit A d with
  | none => rw [hq, bd_n] at h; cases h
  | some q =>
    rw [hq, bd_s, rdBs] at h
    rw [← h]
    congr 1
    exact Prod.ext (by show q.1 = 2 * 0 + q.1; omega) rfl
theorem rdBs_1n {A : TN} {d : RDT} (h : rdBs A (1 : Int).toNat 0 d = none) : rdBit A d = none := by
  have h : (rdBit A d).bind (fun q => rdBs A 0 (2 * 0 + q.1) q.2) = none := h
  cases hq : rdBit A d with
  | none => rfl
  | some q => rw [hq, bd_s, rdBs] at h; cases h
/-- a bit was read behind z zeros -/
def zI (A : TN) (zm : Int) (R : Option (Int × RDT)) (b z : Int) (d : RDT) : Prop := ∃ m : Nat, zm - z < m ∧ (if b = 0 then (if zm ≤ z then none else rdZ A zm m (z + 1) d) else some (z, d)) = R
theorem zI_0 {A : TN} {zm b : Int} {d e : RDT} (h : rdBit A d = some (b, e)) (hz : zm ≤ 63 := by omega) : zI A zm (rdZ A zm 70 0 d) b 0 e := by
  refine ⟨69, by omega, ?_⟩
  have e9 : rdZ A zm 70 0 d = (rdBit A d).bind fun q => if q.1 = 0 then (if zm ≤ 0 then none else rdZ A zm 69 (0 + 1) q.2) else some (0, q.2) := rfl
  rw [e9, h, bd_s]
theorem zI_0n {A : TN} {zm : Int} {d : RDT} (h : rdBit A d = none) : rdZ A zm 70 0 d = none := by
  rw [rdZ, h, bd_n]
theorem zI_s {A : TN} {zm b z b2 : Int} {d e : RDT} {R : Option (Int × RDT)} (h : zI A zm R b z d) (hb : b = 0) (hz : z < zm) (h2 : rdBit A d = some (b2, e)) : zI A zm R b2 (z + 1) e := by
  obtain ⟨m, h1, h3⟩ := h
  rw [if_pos hb, if_neg (by omega)] at h3
  obtain ⟨k, rfl⟩ : ∃ k, m = k + 1 := ⟨m - 1, by omega⟩
  rw [rdZ, h2, bd_s] at h3
  exact ⟨k, by omega, h3⟩
theorem zI_n {A : TN} {zm b z : Int} {d : RDT} {R : Option (Int × RDT)} (h : zI A zm R b z d) (hb : b = 0) (hz : z < zm) (h2 : rdBit A d = none) : R = none := by
  obtain ⟨m, h1, h3⟩ := h
  rw [if_pos hb, if_neg (by omega)] at h3
  cases m with
  | zero => exact h3.symm
  | succ k => rw [rdZ, h2, bd_n] at h3; exact h3.symm
theorem zI_e {A : TN} {zm b z : Int} {d : RDT} {R : Option (Int × RDT)} (h : zI A zm R b z d) (hb : b ≠ 0) : R = some (z, d) := by
  obtain ⟨m, h1, h3⟩ := h
  rw [if_neg hb] at h3
  exact h3.symm
theorem zI_f {A : TN} {zm b z : Int} {d : RDT} {R : Option (Int × RDT)} (h : zI A zm R b z d) (hb : b = 0) (hz : zm ≤ z) : R = none := by
  obtain ⟨m, h1, h3⟩ := h
  rw [if_pos hb, if_pos hz] at h3
  exact h3.symm
section NUM
variable {A : TN} {k zm wb z v : Int} {d e f : RDT}
theorem num_n (h : rdZ A zm 70 0 d = none) : rdNum A k zm wb d = none := by
  unfold rdNum
  rw [h, bd_n]
theorem num_a (h : rdZ A zm 70 0 d = some (z, e)) (hz : z < zm) (h2 : rdBs A k.toNat 0 e = none) : rdNum A k zm wb d = none := by
  unfold rdNum
  rw [h, bd_s, if_pos hz, h2, bd_n]
theorem num_b (h : rdZ A zm 70 0 d = some (z, e)) (hz : zm ≤ z) (h2 : rdBs A wb.toNat 0 e = none) : rdNum A k zm wb d = none := by
  unfold rdNum
  rw [h, bd_s, if_neg (by show ¬ z < zm; omega), h2, bd_n]
theorem num_c (h : rdZ A zm 70 0 d = some (z, e)) (hz : z < zm) (h2 : rdBs A k.toNat 0 e = some (v, f)) : rdNum A k zm wb d = some (z * 2 ^ k.toNat + v, f) := by
  unfold rdNum
  rw [h, bd_s, if_pos hz, h2, bd_s]
theorem num_d (h : rdZ A zm 70 0 d = some (z, e)) (hz : zm ≤ z) (h2 : rdBs A wb.toNat 0 e = some (v, f)) : rdNum A k zm wb d = some (1 + v, f) := by
  unfold rdNum
  rw [h, bd_s, if_neg (by show ¬ z < zm; omega), h2, bd_s]
theorem sh_bd (hz : 0 ≤ z ∧ z ≤ 63) (hk : 0 ≤ k ∧ k ≤ 16) : z * 2 ^ k.toNat ≤ 2147483647 := by
  have h1 : (2 : Int) ^ k.toNat ≤ 2 ^ 16 := mi_pw (by omega)
  have h2 : z * 2 ^ k.toNat ≤ z * 2 ^ 16 := Int.mul_le_mul_of_nonneg_left h1 hz.1
  have h3 : (2 : Int) ^ 16 = 65536 := by decide
  omega
end NUM
set_option maxRecDepth 100000 in
set_option maxHeartbeats 4000000 in
theorem e_readBits_L4 {g : Nat → Int} {Zi : Nat → Option (Nat × (Nat → Int))} {d n q : Nat} {D : Nat → Nat × Nat} {s : Nat → Int} {p : Nat → Nat} {c : Nat → Nat → Int}  {Q : mi_Rs → mi_H → Prop} (hd : 5 ≤ d) (hz : zk Zi) (hq : q + 10 ≤ 400001) (hD : wd n p) (hS : bS s) (hC : bC D c) (hW : wp q g n D p s) (A : TN) (R : Option (Int × RDT)) (n_ : Int) (b_n_ : 0 ≤ n_ ∧ n_ ≤ 30) (hq0 : tpl A (s 601) (c (p 600))) (hX12 : ∀ H, cXp (q + 1) g s p c [] [800, 801, 802, 803, 804, 805, 806, 807, 808, 809, 902, 1705, 1706, 2001, 2002, 2003, 2004, 2005, 2006, 2106, 2107, 2108, 2109, 2110, 2111, 2112, 2113, 2114, 2115, 2116] H → (R = none) → Q (.inr 12) H)
  (hK : ∀ (v : Int) (k : Int) (s0 : Nat → Int) (b_v : 0 ≤ v ∧ v ≤ 1073741823) (b_k : 0 ≤ k ∧ k ≤ 30) (hS0 : bS s0) (hF0 : fr s s0 [2001, 2002, 2003]) (hW0 : wp q g n D p s0) (i0 : k ≤ n_) (i1 : v < 2 ^ k.toNat) (i2 : rdBs A (n_ - k).toNat v (s0 2001, s0 2002, s0 2003) = R) (i3 : ((0 ≤ s0 2003 ∧ s0 2003 ≤ 8) ∧ (0 ≤ s0 2002 ∧ s0 2002 ≤ 255)) ∧ s0 2001 ≤ s 601), (n_ ≤ k) → tt Zi d 57 (52, [some (.inr (.inl 20)), some (.inl n_), some (.inl v), some (.inl k)], [], n, D, s0, p, c) Q) :
  ∀ (m : Nat) (v : Int) (k : Int) (s0 : Nat → Int) (b_v : 0 ≤ v ∧ v ≤ 1073741823) (b_k : 0 ≤ k ∧ k ≤ 30) (hS0 : bS s0) (hF0 : fr s s0 [2001, 2002, 2003]) (hW0 : wp q g n D p s0) (i0 : k ≤ n_) (i1 : v < 2 ^ k.toNat) (i2 : rdBs A (n_ - k).toNat v (s0 2001, s0 2002, s0 2003) = R) (i3 : ((0 ≤ s0 2003 ∧ s0 2003 ≤ 8) ∧ (0 ≤ s0 2002 ∧ s0 2002 ≤ 255)) ∧ s0 2001 ≤ s 601), (n_ - k).toNat < m → tt Zi d 57 (4, [some (.inr (.inl 20)), some (.inl n_), some (.inl v), some (.inl k)], [], n, D, s0, p, c) Q := by
  intro m
  induction m with
  | zero => intro v k s0 b_v b_k hS0 hF0 hW0 i0 i1 i2 i3 hm; exact absurd hm (by omega)
  | succ m ih =>
    intro v k s0 b_v b_k hS0 hF0 hW0 i0 i1 i2 i3 hm
    have e1 : s0 601 = s 601 := hF0 601 (by decide)
    have b2 : 0 ≤ (s0 601) ∧ (s0 601) ≤ 32768 := hS0 601
    have b3 : 0 ≤ (s 601) ∧ (s 601) ≤ 32768 := hS 601
    have htp : tpl A (s0 601) (c (p 600)) := by rw [hF0 601 (by decide)]; exact hq0
    have b4 : 0 ≤ (s0 2001) ∧ (s0 2001) ≤ 100000 := hS0 2001
    have b5 : 0 ≤ (s0 2002) ∧ (s0 2002) ≤ 255 := hS0 2002
    have b6 : 0 ≤ (s0 2003) ∧ (s0 2003) ≤ 8 := hS0 2003
    refine tt_k 2 (S' := (6, [some (.inr (.inl 20)), some (.inl n_), some (.inl v), some (.inl k)], [.inl n_, .inl k], n, D, s0, p, c)) rfl ?_
    refine tb_ge (x := k) (y := n_) rfl rfl (by omega) (fun h7 => ?_) (fun h7 => ?_)
    · show tt Zi d 57 (52, [some (.inr (.inl 20)), some (.inl n_), some (.inl v), some (.inl k)], [], n, D, s0, p, c) _
      exact hK v k s0 (by omega) (by omega) hS0 hF0 hW0 i0 i1 i2 i3 (by omega)
    · show tt Zi d 57 (9, [some (.inr (.inl 20)), some (.inl n_), some (.inl v), some (.inl k)], [], n, D, s0, p, c) _
      refine tt_k 2 (S' := (13, [some (.inr (.inl 20)), some (.inl n_), some (.inl v), some (.inl k)], [.inl (s0 2003)], n, D, s0, p, c)) rfl ?_
      refine tz_ne (x := (s0 2003)) rfl rfl (by omega) (fun h8 => ?_) (fun h8 => ?_)
      · show tt Zi d 57 (20, [some (.inr (.inl 20)), some (.inl n_), some (.inl v), some (.inl k)], [], n, D, s0, p, c) _
        refine tt_k 14 (S' := (42, [some (.inr (.inl 20)), some (.inl n_), some (.inl v), some (.inl k)], [.inl ((mi_shr (s0 2002) ((s0 2003) - 1))), .inl (2 * v)], n, D, (us s0 2003 ((s0 2003) - 1)), p, c)) rfl ?_
        refine tt_k 6 (S' := (4, [some (.inr (.inl 20)), some (.inl n_), some (.inl (((2 * v) + (mi_and (mi_shr (s0 2002) ((s0 2003) - 1)) 1)))), some (.inl (k + 1))], [], n, D, (us s0 2003 ((s0 2003) - 1)), p, c)) rfl ?_
        have e9 := mi_shr_nn (x := (s0 2002)) (k := ((s0 2003) - 1)) (by omega) (by omega)
        have e10 := mi_and1 ((mi_shr (s0 2002) ((s0 2003) - 1)))
        have hn1 : (n_ - k).toNat = (n_ - (k + 1)).toNat + 1 := by omega
        have h2 := i2
        rw [hn1] at h2
        have hp1 := pw_s (k := k) (by omega)
        have hp2 := mi_pw (a := (k + 1).toNat) (b := 30) (by omega)
        have hp3 : (2 : Int) ^ 30 = 1073741824 := by decide
        have hbt : mi_and (mi_shr (s0 2002) (s0 2003 - 1)) 1 = s0 2002 / 2 ^ (s0 2003 - 1).toNat % 2 := bt_sh (by omega) (by omega) (Or.inl (by omega))
        have hrb := rdBit_l (A := A) (a := s0 2001) (b := s0 2002) (l := s0 2003) (by omega)
        have h3 := rdBs_s h2 hrb
        rw [← hbt] at h3
        exact ih (((2 * v) + (mi_and (mi_shr (s0 2002) ((s0 2003) - 1)) 1))) (k + 1) (us s0 2003 ((s0 2003) - 1)) (by omega) (by omega) (bS_us hS0 (show 0 ≤ ((s0 2003) - 1) ∧ ((s0 2003) - 1) ≤ 8 by omega)) (fr_us (by decide) hF0) (wp_us (by decide) hW0) (show (k + 1) ≤ n_ by omega) (show (((2 * v) + (mi_and (mi_shr (s0 2002) ((s0 2003) - 1)) 1))) < 2 ^ (k + 1).toNat by omega) h3 (show ((0 ≤ ((s0 2003) - 1) ∧ ((s0 2003) - 1) ≤ 8) ∧ (0 ≤ (s0 2002) ∧ (s0 2002) ≤ 255)) ∧ (s0 2001) ≤ s 601 by omega) (show (n_ - (k + 1)).toNat < m by omega)
      · show tt Zi d 57 (16, [some (.inr (.inl 20)), some (.inl n_), some (.inl v), some (.inl k)], [], n, D, s0, p, c) _
        refine tt_k 1 (S' := (17, [some (.inr (.inl 20)), some (.inl n_), some (.inl v), some (.inl k)], [.inr (.inl 20)], n, D, s0, p, c)) rfl ?_
        refine tt_cl (by omega) rfl (e_openByte (Zi := Zi) (q := q) (n := n) (D := D) (s := s0) (p := p) (c := c) (by omega) hz (by omega) hD hS0 hC hW0 A htp) ?_
        rintro _ H1 (⟨s11, rfl, rfl, hS11, hW12, f13, k14, k15, k16⟩ | ⟨rfl, hY17, hn18⟩)
        rotate_left
        · exact tt_ax rfl (hX12 _ (cXp_mono (cXp_tr (fk_rf hD) (fr_wk (show fr s s0 [2001, 2002, 2003] from hF0) (by decide)) ((frp_rf : frp p p []) 8 (by decide)) hY17 (by decide) (by decide)) (by omega)) (rdBs_n (n := (n_ - (k + 1)).toNat) (by have h2 := i2; rw [show (n_ - k).toNat = (n_ - (k + 1)).toNat + 1 by omega] at h2; exact h2) (by have h3 := rdBit_n (A := A) (a := s0 2001) (b := s0 2002) (by have h := hn18; rw [show s0 2003 = 0 by omega] at h; exact h); rw [show ((s0 2001, s0 2002, (0 : Int)) : RDT) = (s0 2001, s0 2002, s0 2003) by rw [show s0 2003 = 0 by omega]] at h3; exact h3)))
        show tt Zi d 57 (20, [some (.inr (.inl 20)), some (.inl n_), some (.inl v), some (.inl k)], [], n, D, s11, p, c) _
        replace k14 : 1 ≤ (s11 2003) ∧ (s11 2003) ≤ 8 ∧ 0 ≤ (s11 2002) ∧ (s11 2002) ≤ 255 := k14
        replace k15 : rdOpen A ((s0 2001), (s0 2002), (s0 2003)) = some ((s11 2001), (s11 2002), (s11 2003)) := k15
        replace k16 : (s11 2001) ≤ (s0 601) := k16
        have b19 : 0 ≤ (s11 2003) ∧ (s11 2003) ≤ 8 := hS11 2003
        have b20 : 0 ≤ (s11 2002) ∧ (s11 2002) ≤ 255 := hS11 2002
        have b21 : 0 ≤ (s11 2001) ∧ (s11 2001) ≤ 100000 := hS11 2001
        have e22 : s11 601 = (s0 601) := (f13 601 (by decide))
        have b23 : 0 ≤ (s11 601) ∧ (s11 601) ≤ 32768 := hS11 601
        have hx24 : tpl A (s11 601) (c (p 600)) := by rw [f13 601 (by decide)]; exact htp
        refine tt_k 14 (S' := (42, [some (.inr (.inl 20)), some (.inl n_), some (.inl v), some (.inl k)], [.inl ((mi_shr (s11 2002) ((s11 2003) - 1))), .inl (2 * v)], n, D, (us s11 2003 ((s11 2003) - 1)), p, c)) rfl ?_
        refine tt_k 6 (S' := (4, [some (.inr (.inl 20)), some (.inl n_), some (.inl (((2 * v) + (mi_and (mi_shr (s11 2002) ((s11 2003) - 1)) 1)))), some (.inl (k + 1))], [], n, D, (us s11 2003 ((s11 2003) - 1)), p, c)) rfl ?_
        have e25 := mi_shr_bd (s11 2002) ((s11 2003) - 1)
        have e26 := mi_and1 ((mi_shr (s11 2002) ((s11 2003) - 1)))
        have hn1 : (n_ - k).toNat = (n_ - (k + 1)).toNat + 1 := by omega
        have h2 := i2
        rw [hn1] at h2
        have hp1 := pw_s (k := k) (by omega)
        have hp2 := mi_pw (a := (k + 1).toNat) (b := 30) (by omega)
        have hp3 : (2 : Int) ^ 30 = 1073741824 := by decide
        have hbt : mi_and (mi_shr (s11 2002) (s11 2003 - 1)) 1 = s11 2002 / 2 ^ (s11 2003 - 1).toNat % 2 := bt_sh (by omega) (by omega) (Or.inl (by omega))
        have hrb := rdBit_o (A := A) (a := s0 2001) (b := s0 2002) (by have h := k15; rw [show s0 2003 = 0 by omega] at h; exact h)
        rw [show ((s0 2001, s0 2002, (0 : Int)) : RDT) = (s0 2001, s0 2002, s0 2003) by rw [show s0 2003 = 0 by omega]] at hrb
        have h3 := rdBs_s h2 hrb
        rw [← hbt] at h3
        exact ih (((2 * v) + (mi_and (mi_shr (s11 2002) ((s11 2003) - 1)) 1))) (k + 1) (us s11 2003 ((s11 2003) - 1)) (by omega) (by omega) (bS_us hS11 (show 0 ≤ ((s11 2003) - 1) ∧ ((s11 2003) - 1) ≤ 8 by omega)) (fr_us (by decide) (fr_tr hF0 f13 (by decide))) (wp_us (by decide) hW12) (show (k + 1) ≤ n_ by omega) (show (((2 * v) + (mi_and (mi_shr (s11 2002) ((s11 2003) - 1)) 1))) < 2 ^ (k + 1).toNat by omega) h3 (show ((0 ≤ ((s11 2003) - 1) ∧ ((s11 2003) - 1) ≤ 8) ∧ (0 ≤ (s11 2002) ∧ (s11 2002) ≤ 255)) ∧ (s11 2001) ≤ s 601 by omega) (show (n_ - (k + 1)).toNat < m by omega)
set_option maxRecDepth 100000 in
set_option maxHeartbeats 4000000 in
theorem e_readBits {g : Nat → Int} {Zi : Nat → Option (Nat × (Nat → Int))} {d n q : Nat} {D : Nat → Nat × Nat} {s : Nat → Int} {p : Nat → Nat} {c : Nat → Nat → Int} (hd : 5 ≤ d) (hz : zk Zi) (hq : q + 10 ≤ 400000) (hD : wd n p) (hS : bS s) (hC : bC D c) (hW : wp q g n D p s) (A : TN) (n_ : Int) (b_n_ : 0 ≤ n_ ∧ n_ ≤ 30) (hp0 : tpl A (s 601) (c (p 600))) (hp1 : (0 ≤ s 2003 ∧ s 2003 ≤ 8) ∧ (0 ≤ s 2002 ∧ s 2002 ≤ 255)) (hp2 : s 2001 ≤ s 601) : tt Zi d 57 (0, [some (.inr (.inl 20)), some (.inl n_), none, none], [], n, D, s, p, c) (fun R H => (∃ (s' : Nat → Int) (r : Int), R = .inl (some (.inl r)) ∧ H = (n, D, s', p, c) ∧ bS s' ∧ wp q g n D p s' ∧ fr s s' [2001, 2002, 2003] ∧ (0 ≤ r ∧ r ≤ 1073741823) ∧ (rdBs A (n_ : Int).toNat 0 (s 2001, s 2002, s 2003) = some (r, s' 2001, s' 2002, s' 2003)) ∧ (r < 2 ^ (n_ : Int).toNat) ∧ ((0 ≤ s' 2003 ∧ s' 2003 ≤ 8) ∧ (0 ≤ s' 2002 ∧ s' 2002 ≤ 255)) ∧ (s' 2001 ≤ s 601)) ∨ (R = .inr 12 ∧ cXp ((q + 1)) g s p c [] [800, 801, 802, 803, 804, 805, 806, 807, 808, 809, 902, 1705, 1706, 2001, 2002, 2003, 2004, 2005, 2006, 2106, 2107, 2108, 2109, 2110, 2111, 2112, 2113, 2114, 2115, 2116] H ∧ (rdBs A (n_ : Int).toNat 0 (s 2001, s 2002, s 2003) = none))) := by
  refine tt_k 4 (S' := (4, [some (.inr (.inl 20)), some (.inl n_), some (.inl 0), some (.inl 0)], [], n, D, s, p, c)) rfl ?_
  have b1 : 0 ≤ (s 601) ∧ (s 601) ≤ 32768 := hS 601
  refine e_readBits_L4 (Zi := Zi) (q := q) (n := n) (D := D) (s := s) (p := p) (c := c) hd hz (by omega) hD hS hC hW A (rdBs A (n_ : Int).toNat 0 (s 2001, s 2002, s 2003)) n_ (by omega) hp0 (fun H h hq9 => (Or.inr ⟨rfl, cXp_mono (cXp_tr (fk_rf hD) (show fr s s [800, 801, 802, 803, 804, 805, 806, 807, 808, 809, 902, 1705, 1706, 2001, 2002, 2003, 2004, 2005, 2006, 2106, 2107, 2108, 2109, 2110, 2111, 2112, 2113, 2114, 2115, 2116] from fr_rf) ((frp_rf : frp p p []) 8 (by decide)) h (by decide) (by decide)) (by omega), (show rdBs A (n_ : Int).toNat 0 (s 2001, s 2002, s 2003) = none from hq9)⟩)) ?_ _ 0 0 s (by omega) (by omega) hS fr_rf hW (show 0 ≤ n_ by omega) (by decide) (by rw [Int.sub_zero]) (show ((0 ≤ ((s 2003)) ∧ ((s 2003)) ≤ 8) ∧ (0 ≤ ((s 2002)) ∧ ((s 2002)) ≤ 255)) ∧ ((s 2001)) ≤ (s 601) by omega) (Nat.lt_succ_self _)
  intro x2 x3 s4 b5 b6 hS4 f7 hW8 i9 i10 i11 i12 hx13
  show tt Zi d 57 (52, [some (.inr (.inl 20)), some (.inl n_), some (.inl x2), some (.inl x3)], [], n, D, s4, p, c) _
  replace i9 : x3 ≤ n_ := i9
  replace i10 : x2 < 2 ^ x3.toNat := i10
  replace i11 : rdBs A (n_ - x3).toNat x2 ((s4 2001), (s4 2002), (s4 2003)) = (rdBs A (n_ : Int).toNat 0 (s 2001, s 2002, s 2003)) := i11
  have b14 : 0 ≤ (s4 2001) ∧ (s4 2001) ≤ 100000 := hS4 2001
  have b15 : 0 ≤ (s4 2002) ∧ (s4 2002) ≤ 255 := hS4 2002
  have b16 : 0 ≤ (s4 2003) ∧ (s4 2003) ≤ 8 := hS4 2003
  replace i12 : ((0 ≤ (s4 2003) ∧ (s4 2003) ≤ 8) ∧ (0 ≤ (s4 2002) ∧ (s4 2002) ≤ 255)) ∧ (s4 2001) ≤ (s 601) := i12
  replace hx13 : n_ ≤ x3 := hx13
  have e17 : s4 601 = (s 601) := (f7 601 (by decide))
  have b18 : 0 ≤ (s4 601) ∧ (s4 601) ≤ 32768 := hS4 601
  have hx19 : tpl A (s4 601) (c (p 600)) := by rw [f7 601 (by decide)]; exact hp0
  have hz9 := i11
  rw [show (n_ - x3).toNat = 0 by omega, rdBs] at hz9
  refine tt_k 1 (S' := (53, [some (.inr (.inl 20)), some (.inl n_), some (.inl x2), some (.inl x3)], [.inl x2], n, D, s4, p, c)) rfl ?_
  exact tt_rti rfl rfl (Or.inl ⟨s4, x2, rfl, rfl, hS4, hW8, (fr_tr fr_rf f7 (by decide)), by omega, hz9.symm, by show x2 < 2 ^ (n_ : Int).toNat; have ek : x3 = n_ := (by omega); rw [← ek]; exact i10, by show (0 ≤ (s4 2003) ∧ (s4 2003) ≤ 8) ∧ (0 ≤ (s4 2002) ∧ (s4 2002) ≤ 255); omega, by show (s4 2001) ≤ s 601; omega⟩)
set_option maxRecDepth 100000 in
set_option maxHeartbeats 4000000 in
theorem e_readNumber_L18 {g : Nat → Int} {Zi : Nat → Option (Nat × (Nat → Int))} {d n q : Nat} {D : Nat → Nat × Nat} {s : Nat → Int} {p : Nat → Nat} {c : Nat → Nat → Int}  {Q : mi_Rs → mi_H → Prop} (hd : 6 ≤ d) (hz : zk Zi) (hq : q + 12 ≤ 400001) (hD : wd n p) (hS : bS s) (hC : bC D c) (hW : wp q g n D p s) (A : TN) (RZ : Option (Int × RDT)) (k_ : Int) (mz : Int) (wb : Int) (b_k_ : 0 ≤ k_ ∧ k_ ≤ 16) (b_mz : 0 ≤ mz ∧ mz ≤ 63) (b_wb : 0 ≤ wb ∧ wb ≤ 16) (hq0 : tpl A (s 601) (c (p 600))) (hX12 : ∀ H, cXp (q + 1) g s p c [] [800, 801, 802, 803, 804, 805, 806, 807, 808, 809, 902, 1705, 1706, 2001, 2002, 2003, 2004, 2005, 2006, 2106, 2107, 2108, 2109, 2110, 2111, 2112, 2113, 2114, 2115, 2116] H → (RZ = none) → Q (.inr 12) H)
  (hK : ∀ (bt_ : Int) (z : Int) (s0 : Nat → Int) (b_bt_ : 0 ≤ bt_ ∧ bt_ ≤ 1) (b_z : 0 ≤ z ∧ z ≤ 64) (hS0 : bS s0) (hF0 : fr s s0 [2001, 2002, 2003]) (hW0 : wp q g n D p s0) (i0 : z ≤ mz) (i1 : zI A mz RZ bt_ z (s0 2001, s0 2002, s0 2003)) (i2 : ((0 ≤ s0 2003 ∧ s0 2003 ≤ 8) ∧ (0 ≤ s0 2002 ∧ s0 2002 ≤ 255)) ∧ s0 2001 ≤ s 601), (bt_ ≠ 0 ∨ mz ≤ z) → tt Zi d 56 (42, [some (.inr (.inl 20)), some (.inl k_), some (.inl mz), some (.inl wb), some (.inl bt_), some (.inl z)], [], n, D, s0, p, c) Q) :
  ∀ (m : Nat) (bt_ : Int) (z : Int) (s0 : Nat → Int) (b_bt_ : 0 ≤ bt_ ∧ bt_ ≤ 1) (b_z : 0 ≤ z ∧ z ≤ 64) (hS0 : bS s0) (hF0 : fr s s0 [2001, 2002, 2003]) (hW0 : wp q g n D p s0) (i0 : z ≤ mz) (i1 : zI A mz RZ bt_ z (s0 2001, s0 2002, s0 2003)) (i2 : ((0 ≤ s0 2003 ∧ s0 2003 ≤ 8) ∧ (0 ≤ s0 2002 ∧ s0 2002 ≤ 255)) ∧ s0 2001 ≤ s 601), (mz - z).toNat < m → tt Zi d 56 (18, [some (.inr (.inl 20)), some (.inl k_), some (.inl mz), some (.inl wb), some (.inl bt_), some (.inl z)], [], n, D, s0, p, c) Q := by
  intro m
  induction m with
  | zero => intro bt_ z s0 b_bt_ b_z hS0 hF0 hW0 i0 i1 i2 hm; exact absurd hm (by omega)
  | succ m ih =>
    intro bt_ z s0 b_bt_ b_z hS0 hF0 hW0 i0 i1 i2 hm
    have e1 : s0 2004 = s 2004 := hF0 2004 (by decide)
    have b2 : -1 ≤ (s0 2004) ∧ (s0 2004) ≤ 100000 := hS0 2004
    have b3 : -1 ≤ (s 2004) ∧ (s 2004) ≤ 100000 := hS 2004
    have e4 : s0 601 = s 601 := hF0 601 (by decide)
    have b5 : 0 ≤ (s0 601) ∧ (s0 601) ≤ 32768 := hS0 601
    have b6 : 0 ≤ (s 601) ∧ (s 601) ≤ 32768 := hS 601
    have htp : tpl A (s0 601) (c (p 600)) := by rw [hF0 601 (by decide)]; exact hq0
    refine tt_k 1 (S' := (20, [some (.inr (.inl 20)), some (.inl k_), some (.inl mz), some (.inl wb), some (.inl bt_), some (.inl z)], [.inl bt_], n, D, s0, p, c)) rfl ?_
    refine tz_ne (x := bt_) rfl rfl (by omega) (fun h7 => ?_) (fun h7 => ?_)
    · show tt Zi d 56 (42, [some (.inr (.inl 20)), some (.inl k_), some (.inl mz), some (.inl wb), some (.inl bt_), some (.inl z)], [], n, D, s0, p, c) _
      exact hK bt_ z s0 (by omega) (by omega) hS0 hF0 hW0 i0 i1 i2 (by omega)
    · show tt Zi d 56 (23, [some (.inr (.inl 20)), some (.inl k_), some (.inl mz), some (.inl wb), some (.inl bt_), some (.inl z)], [], n, D, s0, p, c) _
      refine tt_k 2 (S' := (26, [some (.inr (.inl 20)), some (.inl k_), some (.inl mz), some (.inl wb), some (.inl bt_), some (.inl z)], [.inl mz, .inl z], n, D, s0, p, c)) rfl ?_
      refine tb_ge (x := z) (y := mz) rfl rfl (by omega) (fun h8 => ?_) (fun h8 => ?_)
      · show tt Zi d 56 (42, [some (.inr (.inl 20)), some (.inl k_), some (.inl mz), some (.inl wb), some (.inl bt_), some (.inl z)], [], n, D, s0, p, c) _
        exact hK bt_ z s0 (by omega) (by omega) hS0 hF0 hW0 i0 i1 i2 (by omega)
      · show tt Zi d 56 (29, [some (.inr (.inl 20)), some (.inl k_), some (.inl mz), some (.inl wb), some (.inl bt_), some (.inl z)], [], n, D, s0, p, c) _
        refine tt_k 3 (S' := (34, [some (.inr (.inl 20)), some (.inl k_), some (.inl mz), some (.inl wb), some (.inl bt_), some (.inl (z + 1))], [.inl 1, .inr (.inl 20)], n, D, s0, p, c)) rfl ?_
        have b9 : 0 ≤ (s0 2003) ∧ (s0 2003) ≤ 8 := hS0 2003
        have b10 : 0 ≤ (s0 2002) ∧ (s0 2002) ≤ 255 := hS0 2002
        have b11 : 0 ≤ (s0 2001) ∧ (s0 2001) ≤ 100000 := hS0 2001
        refine tt_cl (by omega) rfl (e_readBits (Zi := Zi) (q := q) (n := n) (D := D) (s := s0) (p := p) (c := c) (by omega) hz (by omega) hD hS0 hC hW0 A 1 (by omega) htp (show (0 ≤ (s0 2003) ∧ (s0 2003) ≤ 8) ∧ (0 ≤ (s0 2002) ∧ (s0 2002) ≤ 255) by omega) (show (s0 2001) ≤ (s0 601) by omega)) ?_
        rintro _ H1 (⟨s12, r13, rfl, rfl, hS12, hW14, f15, b16, k17, k18, k19, k20⟩ | ⟨rfl, hY21, hn22⟩)
        rotate_left
        · exact tt_ax rfl (hX12 _ (cXp_mono (cXp_tr (fk_rf hD) (fr_wk (show fr s s0 [2001, 2002, 2003] from hF0) (by decide)) ((frp_rf : frp p p []) 8 (by decide)) hY21 (by decide) (by decide)) (by omega)) (zI_n i1 (by omega) (by omega) (rdBs_1n hn22)))
        show tt Zi d 56 (37, [some (.inr (.inl 20)), some (.inl k_), some (.inl mz), some (.inl wb), some (.inl bt_), some (.inl (z + 1))], [.inl r13], n, D, s12, p, c) _
        replace k17 : rdBs A (1 : Int).toNat 0 ((s0 2001), (s0 2002), (s0 2003)) = some (r13, (s12 2001), (s12 2002), (s12 2003)) := k17
        replace k18 : r13 < 2 ^ (1 : Int).toNat := k18
        replace k19 : (0 ≤ (s12 2003) ∧ (s12 2003) ≤ 8) ∧ (0 ≤ (s12 2002) ∧ (s12 2002) ≤ 255) := k19
        replace k20 : (s12 2001) ≤ (s0 601) := k20
        have b23 : 0 ≤ (s12 2001) ∧ (s12 2001) ≤ 100000 := hS12 2001
        have b24 : 0 ≤ (s12 2002) ∧ (s12 2002) ≤ 255 := hS12 2002
        have b25 : 0 ≤ (s12 2003) ∧ (s12 2003) ≤ 8 := hS12 2003
        have e26 : s12 2004 = (s0 2004) := (f15 2004 (by decide))
        have b27 : -1 ≤ (s12 2004) ∧ (s12 2004) ≤ 100000 := hS12 2004
        have e28 : s12 601 = (s0 601) := (f15 601 (by decide))
        have b29 : 0 ≤ (s12 601) ∧ (s12 601) ≤ 32768 := hS12 601
        have hx30 : tpl A (s12 601) (c (p 600)) := by rw [f15 601 (by decide)]; exact htp
        have b31 : r13 < 2 := k18
        refine tt_k 2 (S' := (18, [some (.inr (.inl 20)), some (.inl k_), some (.inl mz), some (.inl wb), some (.inl r13), some (.inl (z + 1))], [], n, D, s12, p, c)) rfl ?_
        exact ih r13 (z + 1) s12 (by omega) (by omega) hS12 (fr_tr hF0 f15 (by decide)) hW14 (show (z + 1) ≤ mz by omega) (zI_s i1 (by omega) (by omega) (rdBs_1 k17)) (show ((0 ≤ (s12 2003) ∧ (s12 2003) ≤ 8) ∧ (0 ≤ (s12 2002) ∧ (s12 2002) ≤ 255)) ∧ (s12 2001) ≤ s 601 by omega) (show (mz - (z + 1)).toNat < m by omega)
set_option maxRecDepth 100000 in
set_option maxHeartbeats 4000000 in
theorem e_readNumber {g : Nat → Int} {Zi : Nat → Option (Nat × (Nat → Int))} {d n q : Nat} {D : Nat → Nat × Nat} {s : Nat → Int} {p : Nat → Nat} {c : Nat → Nat → Int} (hd : 6 ≤ d) (hz : zk Zi) (hq : q + 12 ≤ 400000) (hD : wd n p) (hS : bS s) (hC : bC D c) (hW : wp q g n D p s) (A : TN) (k_ : Int) (mz : Int) (wb : Int) (b_k_ : 0 ≤ k_ ∧ k_ ≤ 16) (b_mz : 0 ≤ mz ∧ mz ≤ 63) (b_wb : 0 ≤ wb ∧ wb ≤ 16) (hp0 : tpl A (s 601) (c (p 600))) (hp1 : (0 ≤ s 2003 ∧ s 2003 ≤ 8) ∧ (0 ≤ s 2002 ∧ s 2002 ≤ 255)) (hp2 : s 2001 ≤ s 601) : tt Zi d 56 (0, [some (.inr (.inl 20)), some (.inl k_), some (.inl mz), some (.inl wb), none, none], [], n, D, s, p, c) (fun R H => (∃ (s' : Nat → Int) (r : Int), R = .inl (some (.inl r)) ∧ H = (n, D, s', p, c) ∧ bS s' ∧ wp q g n D p s' ∧ fr s s' [2001, 2002, 2003, 2004] ∧ (0 ≤ r ∧ r ≤ 1073741823) ∧ (rdNum A k_ mz wb (s 2001, s 2002, s 2003) = some (r, s' 2001, s' 2002, s' 2003)) ∧ ((0 ≤ s' 2003 ∧ s' 2003 ≤ 8) ∧ (0 ≤ s' 2002 ∧ s' 2002 ≤ 255)) ∧ (s' 2001 ≤ s 601)) ∨ (R = .inr 12 ∧ cXp ((q + 1)) g s p c [] [800, 801, 802, 803, 804, 805, 806, 807, 808, 809, 902, 1705, 1706, 2001, 2002, 2003, 2004, 2005, 2006, 2106, 2107, 2108, 2109, 2110, 2111, 2112, 2113, 2114, 2115, 2116] H ∧ (rdNum A k_ mz wb (s 2001, s 2002, s 2003) = none))) := by
  refine tt_k 2 (S' := (2, [some (.inr (.inl 20)), some (.inl k_), some (.inl mz), some (.inl wb), none, none], [.inl 1, .inr (.inl 20)], n, D, s, p, c)) rfl ?_
  have b1 : 0 ≤ (s 601) ∧ (s 601) ≤ 32768 := hS 601
  have b2 : 0 ≤ (s 2003) ∧ (s 2003) ≤ 8 := hS 2003
  have b3 : 0 ≤ (s 2002) ∧ (s 2002) ≤ 255 := hS 2002
  have b4 : 0 ≤ (s 2001) ∧ (s 2001) ≤ 100000 := hS 2001
  refine tt_cl (by omega) rfl (e_readBits (Zi := Zi) (q := q) (n := n) (D := D) (s := s) (p := p) (c := c) (by omega) hz (by omega) hD hS hC hW A 1 (by omega) hp0 (show (0 ≤ (s 2003) ∧ (s 2003) ≤ 8) ∧ (0 ≤ (s 2002) ∧ (s 2002) ≤ 255) by omega) (show (s 2001) ≤ (s 601) by omega)) ?_
  rintro _ H1 (⟨s5, r6, rfl, rfl, hS5, hW7, f8, b9, k10, k11, k12, k13⟩ | ⟨rfl, hY14, hn15⟩)
  rotate_left
  · exact tt_ax rfl (Or.inr ⟨rfl, cXp_mono (cXp_tr (fk_rf hD) (show fr s s [800, 801, 802, 803, 804, 805, 806, 807, 808, 809, 902, 1705, 1706, 2001, 2002, 2003, 2004, 2005, 2006, 2106, 2107, 2108, 2109, 2110, 2111, 2112, 2113, 2114, 2115, 2116] from fr_rf) ((frp_rf : frp p p []) 8 (by decide)) hY14 (by decide) (by decide)) (by omega), (num_n (zI_0n (rdBs_1n hn15)))⟩)
  show tt Zi d 56 (5, [some (.inr (.inl 20)), some (.inl k_), some (.inl mz), some (.inl wb), none, none], [.inl r6], n, D, s5, p, c) _
  replace k10 : rdBs A (1 : Int).toNat 0 ((s 2001), (s 2002), (s 2003)) = some (r6, (s5 2001), (s5 2002), (s5 2003)) := k10
  replace k11 : r6 < 2 ^ (1 : Int).toNat := k11
  replace k12 : (0 ≤ (s5 2003) ∧ (s5 2003) ≤ 8) ∧ (0 ≤ (s5 2002) ∧ (s5 2002) ≤ 255) := k12
  replace k13 : (s5 2001) ≤ (s 601) := k13
  have b16 : 0 ≤ (s5 2001) ∧ (s5 2001) ≤ 100000 := hS5 2001
  have b17 : 0 ≤ (s5 2002) ∧ (s5 2002) ≤ 255 := hS5 2002
  have b18 : 0 ≤ (s5 2003) ∧ (s5 2003) ≤ 8 := hS5 2003
  have e19 : s5 2004 = (s 2004) := (f8 2004 (by decide))
  have b20 : -1 ≤ (s5 2004) ∧ (s5 2004) ≤ 100000 := hS5 2004
  have b21 : -1 ≤ (s 2004) ∧ (s 2004) ≤ 100000 := hS 2004
  have e22 : s5 601 = (s 601) := (f8 601 (by decide))
  have b23 : 0 ≤ (s5 601) ∧ (s5 601) ≤ 32768 := hS5 601
  have hx24 : tpl A (s5 601) (c (p 600)) := by rw [f8 601 (by decide)]; exact hp0
  have b25 : r6 < 2 := k11
  refine tt_k 3 (S' := (9, [some (.inr (.inl 20)), some (.inl k_), some (.inl mz), some (.inl wb), some (.inl r6), none], [.inr (.inl 20), .inr (.inl 20)], n, D, s5, p, c)) rfl ?_
  refine tt_cl (by omega) rfl (g_openPlace (Zi := Zi) (q := q) (n := n) (D := D) (s := s5) (p := p) (c := c) (by omega) hz (by omega) hD hS5 hC hW7 ) ?_
  rintro _ _ ⟨r26, rfl, rfl, b27, k28⟩
  show tt Zi d 56 (12, [some (.inr (.inl 20)), some (.inl k_), some (.inl mz), some (.inl wb), some (.inl r6), none], [.inl r26, .inr (.inl 20)], n, D, s5, p, c) _
  replace k28 : r26 = (s5 2001) - 1 := k28
  refine tt_k 3 (S' := (18, [some (.inr (.inl 20)), some (.inl k_), some (.inl mz), some (.inl wb), some (.inl r6), some (.inl 0)], [], n, D, (us s5 2004 r26), p, c)) rfl ?_
  refine e_readNumber_L18 (Zi := Zi) (q := q) (n := n) (D := D) (s := (us s5 2004 r26)) (p := p) (c := c) hd hz (by omega) hD (bS_us hS5 (show -1 ≤ r26 ∧ r26 ≤ 100000 by omega)) hC (wp_us (by decide) hW7) A (rdZ A mz 70 0 (s 2001, s 2002, s 2003)) k_ mz wb (by omega) (by omega) (by omega) hx24 (fun H h hq9 => (Or.inr ⟨rfl, cXp_mono (cXp_tr (fk_rf hD) (show fr s (us s5 2004 r26) [800, 801, 802, 803, 804, 805, 806, 807, 808, 809, 902, 1705, 1706, 2001, 2002, 2003, 2004, 2005, 2006, 2106, 2107, 2108, 2109, 2110, 2111, 2112, 2113, 2114, 2115, 2116] from (fr_us (by decide) (fr_tr fr_rf f8 (by decide)))) ((frp_rf : frp p p []) 8 (by decide)) h (by decide) (by decide)) (by omega), (num_n (show rdZ A mz 70 0 (s 2001, s 2002, s 2003) = none from hq9))⟩)) ?_ _ r6 0 (us s5 2004 r26) (by omega) (by omega) (bS_us hS5 (show -1 ≤ r26 ∧ r26 ≤ 100000 by omega)) fr_rf (wp_us (by decide) hW7) (show 0 ≤ mz by omega) (zI_0 (rdBs_1 k10)) (show ((0 ≤ (s5 2003) ∧ (s5 2003) ≤ 8) ∧ (0 ≤ (s5 2002) ∧ (s5 2002) ≤ 255)) ∧ (s5 2001) ≤ (s5 601) by omega) (Nat.lt_succ_self _)
  intro x29 x30 s31 b32 b33 hS31 f34 hW35 i36 i37 i38 hx39
  show tt Zi d 56 (42, [some (.inr (.inl 20)), some (.inl k_), some (.inl mz), some (.inl wb), some (.inl x29), some (.inl x30)], [], n, D, s31, p, c) _
  replace i36 : x30 ≤ mz := i36
  replace i37 : zI A mz (rdZ A mz 70 0 (s 2001, s 2002, s 2003)) x29 x30 ((s31 2001), (s31 2002), (s31 2003)) := i37
  have b40 : 0 ≤ (s31 2001) ∧ (s31 2001) ≤ 100000 := hS31 2001
  have b41 : 0 ≤ (s31 2002) ∧ (s31 2002) ≤ 255 := hS31 2002
  have b42 : 0 ≤ (s31 2003) ∧ (s31 2003) ≤ 8 := hS31 2003
  replace i38 : ((0 ≤ (s31 2003) ∧ (s31 2003) ≤ 8) ∧ (0 ≤ (s31 2002) ∧ (s31 2002) ≤ 255)) ∧ (s31 2001) ≤ (s5 601) := i38
  replace hx39 : x29 ≠ 0 ∨ mz ≤ x30 := hx39
  have e43 : s31 2004 = r26 := (f34 2004 (by decide))
  have b44 : -1 ≤ (s31 2004) ∧ (s31 2004) ≤ 100000 := hS31 2004
  have e45 : s31 601 = (s5 601) := (f34 601 (by decide))
  have b46 : 0 ≤ (s31 601) ∧ (s31 601) ≤ 32768 := hS31 601
  have hx47 : tpl A (s31 601) (c (p 600)) := by rw [f34 601 (by decide)]; exact hx24
  refine tt_k 1 (S' := (44, [some (.inr (.inl 20)), some (.inl k_), some (.inl mz), some (.inl wb), some (.inl x29), some (.inl x30)], [.inl x29], n, D, s31, p, c)) rfl ?_
  refine tz_ne (x := x29) rfl rfl (by omega) (fun h48 => ?_) (fun h48 => ?_)
  · show tt Zi d 56 (57, [some (.inr (.inl 20)), some (.inl k_), some (.inl mz), some (.inl wb), some (.inl x29), some (.inl x30)], [], n, D, s31, p, c) _
    refine tt_k 2 (S' := (60, [some (.inr (.inl 20)), some (.inl k_), some (.inl mz), some (.inl wb), some (.inl x29), some (.inl x30)], [.inl mz, .inl x30], n, D, s31, p, c)) rfl ?_
    refine tb_ge (x := x30) (y := mz) rfl rfl (by omega) (fun h49 => ?_) (fun h49 => ?_)
    · show tt Zi d 56 (76, [some (.inr (.inl 20)), some (.inl k_), some (.inl mz), some (.inl wb), some (.inl x29), some (.inl x30)], [], n, D, s31, p, c) _
      refine tt_k 3 (S' := (79, [some (.inr (.inl 20)), some (.inl k_), some (.inl mz), some (.inl wb), some (.inl x29), some (.inl x30)], [.inl wb, .inr (.inl 20), .inl 1], n, D, s31, p, c)) rfl ?_
      refine tt_cl (by omega) rfl (e_readBits (Zi := Zi) (q := q) (n := n) (D := D) (s := s31) (p := p) (c := c) (by omega) hz (by omega) hD hS31 hC hW35 A wb (by omega) hx47 (show (0 ≤ (s31 2003) ∧ (s31 2003) ≤ 8) ∧ (0 ≤ (s31 2002) ∧ (s31 2002) ≤ 255) by omega) (show (s31 2001) ≤ (s31 601) by omega)) ?_
      rintro _ H1 (⟨s50, r51, rfl, rfl, hS50, hW52, f53, b54, k55, k56, k57, k58⟩ | ⟨rfl, hY59, hn60⟩)
      rotate_left
      · exact tt_ax rfl (Or.inr ⟨rfl, cXp_mono (cXp_tr (fk_rf hD) (show fr s s31 [800, 801, 802, 803, 804, 805, 806, 807, 808, 809, 902, 1705, 1706, 2001, 2002, 2003, 2004, 2005, 2006, 2106, 2107, 2108, 2109, 2110, 2111, 2112, 2113, 2114, 2115, 2116] from (fr_tr (fr_us (by decide) (fr_tr fr_rf f8 (by decide))) f34 (by decide))) ((frp_rf : frp p p []) 8 (by decide)) hY59 (by decide) (by decide)) (by omega), (num_b (zI_e i37 (by omega)) (by omega) hn60)⟩)
      show tt Zi d 56 (82, [some (.inr (.inl 20)), some (.inl k_), some (.inl mz), some (.inl wb), some (.inl x29), some (.inl x30)], [.inl r51, .inl 1], n, D, s50, p, c) _
      replace k55 : rdBs A (wb : Int).toNat 0 ((s31 2001), (s31 2002), (s31 2003)) = some (r51, (s50 2001), (s50 2002), (s50 2003)) := k55
      replace k56 : r51 < 2 ^ (wb : Int).toNat := k56
      replace k57 : (0 ≤ (s50 2003) ∧ (s50 2003) ≤ 8) ∧ (0 ≤ (s50 2002) ∧ (s50 2002) ≤ 255) := k57
      replace k58 : (s50 2001) ≤ (s31 601) := k58
      have b61 : 0 ≤ (s50 2001) ∧ (s50 2001) ≤ 100000 := hS50 2001
      have b62 : 0 ≤ (s50 2002) ∧ (s50 2002) ≤ 255 := hS50 2002
      have b63 : 0 ≤ (s50 2003) ∧ (s50 2003) ≤ 8 := hS50 2003
      have e64 : s50 2004 = (s31 2004) := (f53 2004 (by decide))
      have b65 : -1 ≤ (s50 2004) ∧ (s50 2004) ≤ 100000 := hS50 2004
      have e66 : s50 601 = (s31 601) := (f53 601 (by decide))
      have b67 : 0 ≤ (s50 601) ∧ (s50 601) ≤ 32768 := hS50 601
      have hx68 : tpl A (s50 601) (c (p 600)) := by rw [f53 601 (by decide)]; exact hx47
      have b69 := mi_pw (a := (wb).toNat) (b := 16) (by omega)
      have b70 : (2 : Int) ^ 16 = 65536 := by decide
      refine tt_k 1 (S' := (83, [some (.inr (.inl 20)), some (.inl k_), some (.inl mz), some (.inl wb), some (.inl x29), some (.inl x30)], [.inl (1 + r51)], n, D, s50, p, c)) rfl ?_
      exact tt_rti rfl rfl (Or.inl ⟨s50, (1 + r51), rfl, rfl, hS50, hW52, (fr_tr (fr_tr (fr_us (by decide) (fr_tr fr_rf f8 (by decide))) f34 (by decide)) f53 (by decide)), by omega, by show rdNum A k_ mz wb (s 2001, s 2002, s 2003) = some ((1 + r51), (s50 2001), (s50 2002), (s50 2003)); exact num_d (zI_e i37 (by omega)) (by omega) k55, by show (0 ≤ (s50 2003) ∧ (s50 2003) ≤ 8) ∧ (0 ≤ (s50 2002) ∧ (s50 2002) ≤ 255); omega, by show (s50 2001) ≤ s 601; omega⟩)
    · show tt Zi d 56 (63, [some (.inr (.inl 20)), some (.inl k_), some (.inl mz), some (.inl wb), some (.inl x29), some (.inl x30)], [], n, D, s31, p, c) _
      refine tt_k 5 (S' := (69, [some (.inr (.inl 20)), some (.inl k_), some (.inl mz), some (.inl wb), some (.inl x29), some (.inl x30)], [.inl k_, .inr (.inl 20), .inl (mi_shl x30 k_)], n, D, s31, p, c)) rfl ?_
      refine tt_cl (by omega) rfl (e_readBits (Zi := Zi) (q := q) (n := n) (D := D) (s := s31) (p := p) (c := c) (by omega) hz (by omega) hD hS31 hC hW35 A k_ (by omega) hx47 (show (0 ≤ (s31 2003) ∧ (s31 2003) ≤ 8) ∧ (0 ≤ (s31 2002) ∧ (s31 2002) ≤ 255) by omega) (show (s31 2001) ≤ (s31 601) by omega)) ?_
      rintro _ H1 (⟨s71, r72, rfl, rfl, hS71, hW73, f74, b75, k76, k77, k78, k79⟩ | ⟨rfl, hY80, hn81⟩)
      rotate_left
      · exact tt_ax rfl (Or.inr ⟨rfl, cXp_mono (cXp_tr (fk_rf hD) (show fr s s31 [800, 801, 802, 803, 804, 805, 806, 807, 808, 809, 902, 1705, 1706, 2001, 2002, 2003, 2004, 2005, 2006, 2106, 2107, 2108, 2109, 2110, 2111, 2112, 2113, 2114, 2115, 2116] from (fr_tr (fr_us (by decide) (fr_tr fr_rf f8 (by decide))) f34 (by decide))) ((frp_rf : frp p p []) 8 (by decide)) hY80 (by decide) (by decide)) (by omega), (num_a (zI_e i37 (by omega)) (by omega) hn81)⟩)
      show tt Zi d 56 (72, [some (.inr (.inl 20)), some (.inl k_), some (.inl mz), some (.inl wb), some (.inl x29), some (.inl x30)], [.inl r72, .inl (mi_shl x30 k_)], n, D, s71, p, c) _
      replace k76 : rdBs A (k_ : Int).toNat 0 ((s31 2001), (s31 2002), (s31 2003)) = some (r72, (s71 2001), (s71 2002), (s71 2003)) := k76
      replace k77 : r72 < 2 ^ (k_ : Int).toNat := k77
      replace k78 : (0 ≤ (s71 2003) ∧ (s71 2003) ≤ 8) ∧ (0 ≤ (s71 2002) ∧ (s71 2002) ≤ 255) := k78
      replace k79 : (s71 2001) ≤ (s31 601) := k79
      have b82 : 0 ≤ (s71 2001) ∧ (s71 2001) ≤ 100000 := hS71 2001
      have b83 : 0 ≤ (s71 2002) ∧ (s71 2002) ≤ 255 := hS71 2002
      have b84 : 0 ≤ (s71 2003) ∧ (s71 2003) ≤ 8 := hS71 2003
      have e85 : s71 2004 = (s31 2004) := (f74 2004 (by decide))
      have b86 : -1 ≤ (s71 2004) ∧ (s71 2004) ≤ 100000 := hS71 2004
      have e87 : s71 601 = (s31 601) := (f74 601 (by decide))
      have b88 : 0 ≤ (s71 601) ∧ (s71 601) ≤ 32768 := hS71 601
      have hx89 : tpl A (s71 601) (c (p 600)) := by rw [f74 601 (by decide)]; exact hx47
      have b90 := mi_pw (a := (k_).toNat) (b := 16) (by omega)
      have b91 : (2 : Int) ^ 16 = 65536 := by decide
      have hs9 := mi_shlg (x := x30) (k := k_) (by omega) (by omega) (by omega) (sh_bd (by omega) (by omega))
      have hs0 : 0 ≤ x30 * 2 ^ (k_ : Int).toNat := Int.mul_nonneg (by omega) (Int.le_of_lt (Int.pow_pos (by decide)))
      have hs1 : x30 * 2 ^ (k_ : Int).toNat ≤ 63 * 65536 := Int.mul_le_mul (by omega) (by omega) (Int.le_of_lt (Int.pow_pos (by decide))) (by decide)
      refine tt_k 2 (S' := (83, [some (.inr (.inl 20)), some (.inl k_), some (.inl mz), some (.inl wb), some (.inl x29), some (.inl x30)], [.inl ((mi_shl x30 k_) + r72)], n, D, s71, p, c)) rfl ?_
      have e92 := mi_shl_bd x30 k_
      exact tt_rti rfl rfl (Or.inl ⟨s71, ((mi_shl x30 k_) + r72), rfl, rfl, hS71, hW73, (fr_tr (fr_tr (fr_us (by decide) (fr_tr fr_rf f8 (by decide))) f34 (by decide)) f74 (by decide)), by omega, by show rdNum A k_ mz wb (s 2001, s 2002, s 2003) = some (((mi_shl x30 k_) + r72), (s71 2001), (s71 2002), (s71 2003)); have h := num_c (wb := wb) (zI_e i37 (by omega)) (by omega) k76; rw [h, mi_shlg (x := x30) (k := k_) (by omega) (by omega) (by omega) (sh_bd (by omega) (by omega))], by show (0 ≤ (s71 2003) ∧ (s71 2003) ≤ 8) ∧ (0 ≤ (s71 2002) ∧ (s71 2002) ≤ 255); omega, by show (s71 2001) ≤ s 601; omega⟩)
  · show tt Zi d 56 (47, [some (.inr (.inl 20)), some (.inl k_), some (.inl mz), some (.inl wb), some (.inl x29), some (.inl x30)], [], n, D, s31, p, c) _
    refine tt_k 4 (S' := (54, [some (.inr (.inl 20)), some (.inl k_), some (.inl mz), some (.inl wb), some (.inl x29), some (.inl x30)], [.inl (s31 2004), .inl 7, .inr (.inl 20)], n, D, s31, p, c)) rfl ?_
    refine tt_cl (by omega) rfl (e_refuse (Zi := Zi) (q := q) (n := n) (D := D) (s := s31) (p := p) (c := c) (by omega) hz (by omega) hD hS31 hC hW35 7 (s31 2004) (by omega) (by omega)) ?_
    rintro _ H1 (hF | ⟨rfl, hY93⟩)
    · exact hF.elim
    · exact tt_ax rfl (Or.inr ⟨rfl, cXp_mono (cXp_tr (fk_rf hD) (show fr s s31 [800, 801, 802, 803, 804, 805, 806, 807, 808, 809, 902, 1705, 1706, 2001, 2002, 2003, 2004, 2005, 2006, 2106, 2107, 2108, 2109, 2110, 2111, 2112, 2113, 2114, 2115, 2116] from (fr_tr (fr_us (by decide) (fr_tr fr_rf f8 (by decide))) f34 (by decide))) ((frp_rf : frp p p []) 8 (by decide)) hY93 (by decide) (by decide)) (by omega), (num_n (zI_f i37 (by omega) (by omega)))⟩)
