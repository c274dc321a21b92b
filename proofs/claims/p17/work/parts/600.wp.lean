/-! the class's world: what its references are, and what room was taken -/
def ln (D : Nat → Nat × Nat) (a : Nat) : Nat := (mi_dsc D a).2
def tot : Nat → (Nat → Nat × Nat) → Nat
  | 0, _ => 0
  | n + 1, D => tot n D + (D (48 + n)).2
def pq (m : Nat) : Nat := if m < 12288 then 2 * m else 36864
def jc (m : Nat) : Nat := if m < 12288 then (if m = 0 then 0 else m.log2 + 1) else 15
theorem jc_14 {m : Nat} (h : m < 12288) : jc m ≤ 14 := by
  unfold jc
  rw [if_pos h]
  by_cases h0 : m = 0
  · rw [if_pos h0]
    omega
  · rw [if_neg h0]
    have h1 : m.log2 < 14 := (Nat.log2_lt h0).2 (by have e : 2 ^ 14 = 16384 := by decide
                                                    omega)
    omega
theorem jc_le (m : Nat) : jc m ≤ 15 := by
  by_cases h : m < 12288
  · have := jc_14 h
    omega
  · unfold jc
    rw [if_neg h]
    exact Nat.le_refl 15
theorem jc_up {l m : Nat} (h3 : l < 12288) (h4 : m = 12288 ∨ 2 * l ≤ m) (h2 : m ≤ 12288) (h5 : 1 ≤ m) : jc l + 1 ≤ jc m := by
  by_cases hm : m < 12288
  · have h4 : 2 * l ≤ m := by omega
    unfold jc
    rw [if_pos h3, if_pos hm, if_neg (show ¬ m = 0 by omega)]
    by_cases h0 : l = 0
    · rw [if_pos h0]
      omega
    · rw [if_neg h0]
      have h6 : 2 ^ l.log2 ≤ l := (Nat.le_log2 h0).1 (Nat.le_refl _)
      have h7 : 2 ^ (l.log2 + 1) = 2 ^ l.log2 * 2 := Nat.pow_succ _ _
      have h8 : l.log2 + 1 ≤ m.log2 := (Nat.le_log2 (show ¬ m = 0 by omega)).2 (by omega)
      omega
  · have e := jc_14 h3
    have e2 : jc m = 15 := by
      unfold jc
      rw [if_neg hm]
    omega
def sb (D : Nat → Nat × Nat) (a : Nat) : Prop := bC_lo D a = 0 ∧ bC_hi D a = 65535
def smp (n : Nat) (D : Nat → Nat × Nat) (a : Nat) : Prop := mi_arr n D a = some (0, ln D a) ∧ sb D a ∧ ln D a ≤ 12288
def byt (n : Nat) (D : Nat → Nat × Nat) (a : Nat) : Prop := mi_arr n D a = some (1, ln D a) ∧ bC_lo D a = -128 ∧ bC_hi D a = 127
def sw (a b x y : Nat) : Prop := (a = x ∧ b = y) ∨ (a = y ∧ b = x)
def ext (n : Nat) (D : Nat → Nat × Nat) (n' : Nat) (D' : Nat → Nat × Nat) : Prop := n ≤ n' ∧ ∀ a, a < 48 + n → D' a = D a
def frp (p p' : Nat → Nat) (P : List Nat) : Prop := ∀ k, k ∉ P → p' k = p k
def gk (k : Nat) : Bool := Nat.ble 3000 k || (Nat.ble 100 k && Nat.ble k 103)
def wp (q : Nat) (g : Nat → Int) (n : Nat) (D : Nat → Nat × Nat) (p : Nat → Nat) (s : Nat → Int) : Prop :=
  (∃ k4 k6 : Nat, ln D (p 400) = 64 * 2 ^ k4 ∧ ln D (p 600) = 64 * 2 ^ k6 ∧ k4 ≤ 12 ∧ k6 ≤ 12 ∧ n ≤ q + k4 + k6 + jc (ln D (p 104)) + jc (ln D (p 2504)) + jc (ln D (p 2704)) ∧ tot n D ≤ 128 * 2 ^ k4 + 128 * 2 ^ k6 + pq (ln D (p 104)) + pq (ln D (p 2504)) + pq (ln D (p 2704))) ∧
  (∀ a, 48 + n ≤ a → D a = (0, 0)) ∧
  (byt n D (p 400)) ∧
  (byt n D (p 600)) ∧
  (s 401 ≤ ln D (p 400)) ∧
  (s 601 ≤ ln D (p 600)) ∧
  (smp n D (p 104)) ∧
  (smp n D (p 2504)) ∧
  (smp n D (p 2704)) ∧
  (s 100 * s 101 * s 102 ≤ ln D (p 104)) ∧
  (s 2500 * s 2501 * s 2502 ≤ ln D (p 2504)) ∧
  (s 2700 * s 2701 * s 2702 ≤ ln D (p 2704)) ∧
  (sw (p 900) (p 901) 10 11) ∧
  (sw (p 1203) (p 1204) 13 14) ∧
  (sw (p 2103) (p 2104) 22 23) ∧
  (sw (p 8) (p 9) 25 27) ∧
  (smp n D (p 1205)) ∧
  (smp n D (p 2105)) ∧
  (s 1602 = 0 ∨ w_ok (s 1601) (s 1602)) ∧
  (∀ k, gk k = true → s k = g k)
theorem wp.nb {g : Nat → Int} {q n : Nat} {D : Nat → Nat × Nat} {p : Nat → Nat} {s : Nat → Int} (h : wp q g n D p s) : ∃ k4 k6 : Nat, ln D (p 400) = 64 * 2 ^ k4 ∧ ln D (p 600) = 64 * 2 ^ k6 ∧ k4 ≤ 12 ∧ k6 ≤ 12 ∧ n ≤ q + k4 + k6 + jc (ln D (p 104)) + jc (ln D (p 2504)) + jc (ln D (p 2704)) ∧ tot n D ≤ 128 * 2 ^ k4 + 128 * 2 ^ k6 + pq (ln D (p 104)) + pq (ln D (p 2504)) + pq (ln D (p 2704)) := h.1
theorem wp.dz {g : Nat → Int} {q n : Nat} {D : Nat → Nat × Nat} {p : Nat → Nat} {s : Nat → Int} (h : wp q g n D p s) : ∀ a, 48 + n ≤ a → D a = (0, 0) := h.2.1
theorem wp.r4 {g : Nat → Int} {q n : Nat} {D : Nat → Nat × Nat} {p : Nat → Nat} {s : Nat → Int} (h : wp q g n D p s) : byt n D (p 400) := h.2.2.1
theorem wp.r6 {g : Nat → Int} {q n : Nat} {D : Nat → Nat × Nat} {p : Nat → Nat} {s : Nat → Int} (h : wp q g n D p s) : byt n D (p 600) := h.2.2.2.1
theorem wp.c4 {g : Nat → Int} {q n : Nat} {D : Nat → Nat × Nat} {p : Nat → Nat} {s : Nat → Int} (h : wp q g n D p s) : s 401 ≤ ln D (p 400) := h.2.2.2.2.1
theorem wp.c6 {g : Nat → Int} {q n : Nat} {D : Nat → Nat × Nat} {p : Nat → Nat} {s : Nat → Int} (h : wp q g n D p s) : s 601 ≤ ln D (p 600) := h.2.2.2.2.2.1
theorem wp.p1 {g : Nat → Int} {q n : Nat} {D : Nat → Nat × Nat} {p : Nat → Nat} {s : Nat → Int} (h : wp q g n D p s) : smp n D (p 104) := h.2.2.2.2.2.2.1
theorem wp.p25 {g : Nat → Int} {q n : Nat} {D : Nat → Nat × Nat} {p : Nat → Nat} {s : Nat → Int} (h : wp q g n D p s) : smp n D (p 2504) := h.2.2.2.2.2.2.2.1
theorem wp.p27 {g : Nat → Int} {q n : Nat} {D : Nat → Nat × Nat} {p : Nat → Nat} {s : Nat → Int} (h : wp q g n D p s) : smp n D (p 2704) := h.2.2.2.2.2.2.2.2.1
theorem wp.w1 {g : Nat → Int} {q n : Nat} {D : Nat → Nat × Nat} {p : Nat → Nat} {s : Nat → Int} (h : wp q g n D p s) : s 100 * s 101 * s 102 ≤ ln D (p 104) := h.2.2.2.2.2.2.2.2.2.1
theorem wp.w25 {g : Nat → Int} {q n : Nat} {D : Nat → Nat × Nat} {p : Nat → Nat} {s : Nat → Int} (h : wp q g n D p s) : s 2500 * s 2501 * s 2502 ≤ ln D (p 2504) := h.2.2.2.2.2.2.2.2.2.2.1
theorem wp.w27 {g : Nat → Int} {q n : Nat} {D : Nat → Nat × Nat} {p : Nat → Nat} {s : Nat → Int} (h : wp q g n D p s) : s 2700 * s 2701 * s 2702 ≤ ln D (p 2704) := h.2.2.2.2.2.2.2.2.2.2.2.1
theorem wp.m9 {g : Nat → Int} {q n : Nat} {D : Nat → Nat × Nat} {p : Nat → Nat} {s : Nat → Int} (h : wp q g n D p s) : sw (p 900) (p 901) 10 11 := h.2.2.2.2.2.2.2.2.2.2.2.2.1
theorem wp.a12 {g : Nat → Int} {q n : Nat} {D : Nat → Nat × Nat} {p : Nat → Nat} {s : Nat → Int} (h : wp q g n D p s) : sw (p 1203) (p 1204) 13 14 := h.2.2.2.2.2.2.2.2.2.2.2.2.2.1
theorem wp.a21 {g : Nat → Int} {q n : Nat} {D : Nat → Nat × Nat} {p : Nat → Nat} {s : Nat → Int} (h : wp q g n D p s) : sw (p 2103) (p 2104) 22 23 := h.2.2.2.2.2.2.2.2.2.2.2.2.2.2.1
theorem wp.pp {g : Nat → Int} {q n : Nat} {D : Nat → Nat × Nat} {p : Nat → Nat} {s : Nat → Int} (h : wp q g n D p s) : sw (p 8) (p 9) 25 27 := h.2.2.2.2.2.2.2.2.2.2.2.2.2.2.2.1
theorem wp.s12 {g : Nat → Int} {q n : Nat} {D : Nat → Nat × Nat} {p : Nat → Nat} {s : Nat → Int} (h : wp q g n D p s) : smp n D (p 1205) := h.2.2.2.2.2.2.2.2.2.2.2.2.2.2.2.2.1
theorem wp.s21 {g : Nat → Int} {q n : Nat} {D : Nat → Nat × Nat} {p : Nat → Nat} {s : Nat → Int} (h : wp q g n D p s) : smp n D (p 2105) := h.2.2.2.2.2.2.2.2.2.2.2.2.2.2.2.2.2.1
theorem wp.wo {g : Nat → Int} {q n : Nat} {D : Nat → Nat × Nat} {p : Nat → Nat} {s : Nat → Int} (h : wp q g n D p s) : s 1602 = 0 ∨ w_ok (s 1601) (s 1602) := h.2.2.2.2.2.2.2.2.2.2.2.2.2.2.2.2.2.2.1
theorem wp.gz {g : Nat → Int} {q n : Nat} {D : Nat → Nat × Nat} {p : Nat → Nat} {s : Nat → Int} (h : wp q g n D p s) : ∀ k, gk k = true → s k = g k := h.2.2.2.2.2.2.2.2.2.2.2.2.2.2.2.2.2.2.2
def wpk : List Nat := [401, 601, 100, 101, 102, 2500, 2501, 2502, 2700, 2701, 2702, 1601, 1602]
theorem wp_eq {g : Nat → Int} {q n : Nat} {D : Nat → Nat × Nat} {p : Nat → Nat} {s s1 : Nat → Int} (e : ∀ k ∈ wpk, s1 k = s k) (eg : ∀ k, gk k = true → s1 k = s k) (h : wp q g n D p s) : wp q g n D p s1 :=
  ⟨h.nb, h.dz, h.r4, h.r6, (by rw [e 401 (by decide)]; exact h.c4), (by rw [e 601 (by decide)]; exact h.c6), h.p1, h.p25, h.p27, (by rw [e 100 (by decide), e 101 (by decide), e 102 (by decide)]; exact h.w1), (by rw [e 2500 (by decide), e 2501 (by decide), e 2502 (by decide)]; exact h.w25), (by rw [e 2700 (by decide), e 2701 (by decide), e 2702 (by decide)]; exact h.w27), h.m9, h.a12, h.a21, h.pp, h.s12, h.s21, (by rw [e 1601 (by decide), e 1602 (by decide)]; exact h.wo), fun k hk => (eg k hk).trans (h.gz k hk)⟩
theorem wp_us {g : Nat → Int} {q n : Nat} {D : Nat → Nat × Nat} {p : Nat → Nat} {s : Nat → Int} {k : Nat} {v : Int} (hk : k ∉ wpk ∧ gk k = false) (h : wp q g n D p s) : wp q g n D p (us s k v) := wp_eq (fun j hj => us_ne (fun e => hk.1 (by rw [← e]; exact hj))) (fun j hj => us_ne (fun e => by rw [e, hk.2] at hj; cases hj)) h
theorem wp_fr {g : Nat → Int} {q n : Nat} {D : Nat → Nat × Nat} {p : Nat → Nat} {s s1 : Nat → Int} {L : List Nat} (f : fr s s1 L) (hd : (∀ k ∈ wpk, k ∉ L) ∧ (∀ x ∈ L, gk x = false)) (h : wp q g n D p s) : wp q g n D p s1 := wp_eq (fun j hj => f j (hd.1 j hj)) (fun j hj => f j (fun hm => by have := hd.2 j hm; rw [hj] at this; cases this)) h
theorem wp_c4 {g : Nat → Int} {q n : Nat} {D : Nat → Nat × Nat} {p : Nat → Nat} {s : Nat → Int} {v : Int} (h : wp q g n D p s) (hv : v ≤ ln D (p 400)) : wp q g n D p (us s 401 v) :=
  ⟨h.nb, h.dz, h.r4, h.r6, (by rw [us_eq]; exact hv), (by rw [us_ne (by decide)]; exact h.c6), h.p1, h.p25, h.p27, (by rw [us_ne (by decide), us_ne (by decide), us_ne (by decide)]; exact h.w1), (by rw [us_ne (by decide), us_ne (by decide), us_ne (by decide)]; exact h.w25), (by rw [us_ne (by decide), us_ne (by decide), us_ne (by decide)]; exact h.w27), h.m9, h.a12, h.a21, h.pp, h.s12, h.s21, (by rw [us_ne (by decide), us_ne (by decide)]; exact h.wo), fun k hk => (us_ne (fun e => by rw [e] at hk; exact absurd hk (by decide))).trans (h.gz k hk)⟩
theorem wp_c6 {g : Nat → Int} {q n : Nat} {D : Nat → Nat × Nat} {p : Nat → Nat} {s : Nat → Int} {v : Int} (h : wp q g n D p s) (hv : v ≤ ln D (p 600)) : wp q g n D p (us s 601 v) :=
  ⟨h.nb, h.dz, h.r4, h.r6, (by rw [us_ne (by decide)]; exact h.c4), (by rw [us_eq]; exact hv), h.p1, h.p25, h.p27, (by rw [us_ne (by decide), us_ne (by decide), us_ne (by decide)]; exact h.w1), (by rw [us_ne (by decide), us_ne (by decide), us_ne (by decide)]; exact h.w25), (by rw [us_ne (by decide), us_ne (by decide), us_ne (by decide)]; exact h.w27), h.m9, h.a12, h.a21, h.pp, h.s12, h.s21, (by rw [us_ne (by decide), us_ne (by decide)]; exact h.wo), fun k hk => (us_ne (fun e => by rw [e] at hk; exact absurd hk (by decide))).trans (h.gz k hk)⟩
/-! more cells -/
theorem arr_lt {n : Nat} {D : Nat → Nat × Nat} {a : Nat} {x : Nat × Nat} (h : mi_arr n D a = some x) : a < 48 + n := (mi_arr_ok (t := x.1) (m := x.2) h).1
theorem ext_arr {n n' : Nat} {D D' : Nat → Nat × Nat} (e : ext n D n' D') {a : Nat} {x : Nat × Nat} (h : mi_arr n D a = some x) : mi_arr n' D' a = some x := by
  have hl := arr_lt h
  unfold mi_arr at h ⊢
  by_cases hb : Nat.ble 48 a = true
  · rw [hb] at h ⊢
    simp only [cond] at h ⊢
    split at h
    · rename_i hc
      rw [if_pos ⟨hc.1, by have := e.1; omega⟩, e.2 a hl]
      exact h
    · cases h
  · have hb : Nat.ble 48 a = false := by
      cases hq : Nat.ble 48 a with
      | false => rfl
      | true => exact absurd hq hb
    rw [hb] at h ⊢
    exact h
theorem ext_dsc {n n' : Nat} {D D' : Nat → Nat × Nat} (e : ext n D n' D') {a : Nat} (h : a < 48 + n) : mi_dsc D' a = mi_dsc D a := by
  unfold mi_dsc
  rw [e.2 a h]
theorem ext_ln {n n' : Nat} {D D' : Nat → Nat × Nat} (e : ext n D n' D') {a : Nat} (h : a < 48 + n) : ln D' a = ln D a := by
  unfold ln
  rw [ext_dsc e h]
theorem ext_lo {n n' : Nat} {D D' : Nat → Nat × Nat} (e : ext n D n' D') {a : Nat} (h : a < 48 + n) : bC_lo D' a = bC_lo D a ∧ bC_hi D' a = bC_hi D a := by
  unfold bC_lo bC_hi
  rw [e.2 a h]
  exact ⟨rfl, rfl⟩
theorem ext_smp {n n' : Nat} {D D' : Nat → Nat × Nat} (e : ext n D n' D') {a : Nat} (h : smp n D a) : smp n' D' a := by
  obtain ⟨h1, ⟨h2, h3⟩, h4⟩ := h
  have hl := arr_lt h1
  unfold smp sb
  rw [ext_ln e hl, (ext_lo e hl).1, (ext_lo e hl).2]
  exact ⟨ext_arr e h1, ⟨h2, h3⟩, h4⟩
theorem ext_byt {n n' : Nat} {D D' : Nat → Nat × Nat} (e : ext n D n' D') {a : Nat} (h : byt n D a) : byt n' D' a := by
  obtain ⟨h1, h2, h3⟩ := h
  have hl := arr_lt h1
  unfold byt
  rw [ext_ln e hl, (ext_lo e hl).1, (ext_lo e hl).2]
  exact ⟨ext_arr e h1, h2, h3⟩
theorem ext_rf {n : Nat} {D : Nat → Nat × Nat} : ext n D n D := ⟨Nat.le_refl _, fun _ _ => rfl⟩
theorem ext_tr {n n1 n2 : Nat} {D D1 D2 : Nat → Nat × Nat} (a : ext n D n1 D1) (b : ext n1 D1 n2 D2) : ext n D n2 D2 := ⟨Nat.le_trans a.1 b.1, fun k hk => (b.2 k (by have := a.1; omega)).trans (a.2 k hk)⟩
theorem ext_1 {n : Nat} {D : Nat → Nat × Nat} {x : Nat × Nat} : ext n D (n + 1) (ud D (48 + n) x) := ⟨Nat.le_succ _, fun a ha => ud_ne (by omega)⟩
theorem frp_rf {p : Nat → Nat} {P : List Nat} : frp p p P := fun _ _ => rfl
theorem frp_tr {p p1 p2 : Nat → Nat} {P P1 : List Nat} (h : frp p p1 P) (h1 : frp p1 p2 P1) (hs : ∀ x ∈ P1, x ∈ P) : frp p p2 P := by
  intro j hj
  rw [h1 j (fun e => hj (hs j e)), h j hj]
theorem frp_up {p p1 : Nat → Nat} {P : List Nat} {k v : Nat} (hk : k ∈ P) (h : frp p p1 P) : frp p (up p1 k v) P := by
  intro j hj
  have hne : j ≠ k := fun e => hj (by rw [e]; exact hk)
  rw [up_ne hne]
  exact h j hj
theorem tot_le {D D' : Nat → Nat × Nat} : ∀ n : Nat, (∀ a, a < 48 + n → D' a = D a) → tot n D' = tot n D
  | 0, _ => rfl
  | n + 1, h => by
    rw [tot, tot, tot_le n (fun a ha => h a (by omega)), h (48 + n) (by omega)]
theorem tot_1 {n : Nat} {D : Nat → Nat × Nat} {x : Nat × Nat} : tot (n + 1) (ud D (48 + n) x) = tot n D + x.2 := by
  rw [tot, ud_eq, tot_le n (fun a ha => ud_ne (by omega))]
theorem dz_1 {n : Nat} {D : Nat → Nat × Nat} {x : Nat × Nat} (h : ∀ a, 48 + n ≤ a → D a = (0, 0)) : ∀ a, 48 + (n + 1) ≤ a → ud D (48 + n) x a = (0, 0) := by
  intro a ha
  rw [ud_ne (by omega)]
  exact h a (by omega)
/-- a cell for an exception -/
theorem wp_x {g : Nat → Int} {q n x : Nat} {D : Nat → Nat × Nat} {p : Nat → Nat} {s : Nat → Int} (h : wp q g n D p s) : wp (q + 1) g (n + 1) (ud D (48 + n) (x, 0)) p s := by
  have e : ext n D (n + 1) (ud D (48 + n) (x, 0)) := ext_1
  have l4 := ext_ln e (arr_lt h.r4.1)
  have l6 := ext_ln e (arr_lt h.r6.1)
  have l1 := ext_ln e (arr_lt h.p1.1)
  have l25 := ext_ln e (arr_lt h.p25.1)
  have l27 := ext_ln e (arr_lt h.p27.1)
  have hnb : ∃ k4 k6 : Nat, ln (ud D (48 + n) (x, 0)) (p 400) = 64 * 2 ^ k4 ∧ ln (ud D (48 + n) (x, 0)) (p 600) = 64 * 2 ^ k6 ∧ k4 ≤ 12 ∧ k6 ≤ 12 ∧ n + 1 ≤ q + 1 + k4 + k6 + jc (ln (ud D (48 + n) (x, 0)) (p 104)) + jc (ln (ud D (48 + n) (x, 0)) (p 2504)) + jc (ln (ud D (48 + n) (x, 0)) (p 2704)) ∧ tot (n + 1) (ud D (48 + n) (x, 0)) ≤ 128 * 2 ^ k4 + 128 * 2 ^ k6 + pq (ln (ud D (48 + n) (x, 0)) (p 104)) + pq (ln (ud D (48 + n) (x, 0)) (p 2504)) + pq (ln (ud D (48 + n) (x, 0)) (p 2704)) := by
    obtain ⟨k4, k6, e4, e6, b4, b6, hn, ht⟩ := h.nb
    refine ⟨k4, k6, by rw [l4]; exact e4, by rw [l6]; exact e6, b4, b6, by rw [l1, l25, l27]; omega, ?_⟩
    rw [tot_1, l1, l25, l27]
    exact ht
  exact ⟨hnb, dz_1 h.dz, ext_byt e h.r4, ext_byt e h.r6, (by rw [l4]; exact h.c4), (by rw [l6]; exact h.c6), ext_smp e h.p1, ext_smp e h.p25, ext_smp e h.p27, (by rw [l1]; exact h.w1), (by rw [l25]; exact h.w25), (by rw [l27]; exact h.w27), h.m9, h.a12, h.a21, h.pp, ext_smp e h.s12, ext_smp e h.s21, h.wo, h.gz⟩
theorem bC_0 {n : Nat} {D : Nat → Nat × Nat} {c : Nat → Nat → Int} (h : bC D c) (hz : ∀ a, 48 + n ≤ a → D a = (0, 0)) (i : Nat) : 0 ≤ c (48 + n) i ∧ c (48 + n) i ≤ 65535 := by
  have h1 := h (48 + n) i
  unfold bC_lo bC_hi at h1
  rw [hz (48 + n) (Nat.le_refl _), Nat.ble_eq_true_of_le (Nat.le_add_right 48 n)] at h1
  exact h1
theorem bC_x {n x m : Nat} {D : Nat → Nat × Nat} {c : Nat → Nat → Int} (h : bC D c) (hz : ∀ a, 48 + n ≤ a → D a = (0, 0)) (hx : x ≠ 1) : bC (ud D (48 + n) (x, m)) c := by
  intro a i
  by_cases ha : a = 48 + n
  · subst ha
    unfold bC_lo bC_hi
    rw [ud_eq, Nat.ble_eq_true_of_le (Nat.le_add_right 48 n)]
    have hb : Nat.beq x 1 = false := by
      cases hq : Nat.beq x 1 with
      | false => rfl
      | true => exact absurd (Nat.eq_of_beq_eq_true hq) hx
    simp only [cond, hb]
    exact bC_0 h hz i
  · have h1 := h a i
    unfold bC_lo bC_hi at h1 ⊢
    rw [ud_ne ha]
    exact h1
theorem bC_nw {n k m : Nat} {D : Nat → Nat × Nat} {c : Nat → Nat → Int} (h : bC D c) : bC (ud D (48 + n) (k, m)) (uc c (48 + n) (fun _ => 0)) := by
  intro a i
  by_cases ha : a = 48 + n
  · subst ha
    unfold bC_lo bC_hi
    rw [ud_eq, uc_eq, Nat.ble_eq_true_of_le (Nat.le_add_right 48 n)]
    simp only [cond]
    cases Nat.beq k 1 <;> decide
  · have h1 := h a i
    unfold bC_lo bC_hi at h1 ⊢
    rw [ud_ne ha, uc_ne ha]
    exact h1
/-! what the rows are -/
theorem bC_any {D : Nat → Nat × Nat} {c : Nat → Nat → Int} (h : bC D c) (a i : Nat) : -2147483648 ≤ c a i ∧ c a i ≤ 2147483647 := by
  have h1 := h a i
  have hl : ∀ a, -2147483648 ≤ bC_lo D a ∧ bC_hi D a ≤ 2147483647 := by
    intro a
    unfold bC_lo bC_hi
    cases Nat.ble 48 a with
    | true => simp only [cond]; cases Nat.beq (D a).1 1 <;> decide
    | false =>
      simp only [cond]
      constructor <;> (repeat' split) <;> decide
  have h2 := hl a
  omega
theorem bC_sb {D : Nat → Nat × Nat} {c : Nat → Nat → Int} {a : Nat} (h : bC D c) (hs : sb D a) (i : Nat) : 0 ≤ c a i ∧ c a i ≤ 65535 := by
  have h1 := h a i
  rw [hs.1, hs.2] at h1
  exact h1
theorem bC_by {n : Nat} {D : Nat → Nat × Nat} {c : Nat → Nat → Int} {a : Nat} (h : bC D c) (hs : byt n D a) (i : Nat) : -128 ≤ c a i ∧ c a i ≤ 127 := by
  have h1 := h a i
  rw [hs.2.1, hs.2.2] at h1
  exact h1
theorem sw_arr {n m x y a b : Nat} {D : Nat → Nat × Nat} (h : sw a b x y) (hx : mi_arr n D x = some (0, m)) (hy : mi_arr n D y = some (0, m)) : mi_arr n D a = some (0, m) ∧ mi_arr n D b = some (0, m) := by
  rcases h with ⟨rfl, rfl⟩ | ⟨rfl, rfl⟩
  · exact ⟨hx, hy⟩
  · exact ⟨hy, hx⟩
theorem sw_now {a b : Nat} {D : Nat → Nat × Nat} (h : sw a b 10 11) : (bC_lo D a = -2147483648 ∧ bC_hi D a = 2147483647) ∧ (bC_lo D b = -2147483648 ∧ bC_hi D b = 2147483647) := by
  rcases h with ⟨rfl, rfl⟩ | ⟨rfl, rfl⟩ <;> exact ⟨⟨rfl, rfl⟩, ⟨rfl, rfl⟩⟩
theorem sw_12 {a b : Nat} {D : Nat → Nat × Nat} (h : sw a b 13 14) : sb D a ∧ sb D b := by
  rcases h with ⟨rfl, rfl⟩ | ⟨rfl, rfl⟩ <;> exact ⟨⟨rfl, rfl⟩, ⟨rfl, rfl⟩⟩
theorem sw_21 {a b : Nat} {D : Nat → Nat × Nat} (h : sw a b 22 23) : sb D a ∧ sb D b := by
  rcases h with ⟨rfl, rfl⟩ | ⟨rfl, rfl⟩ <;> exact ⟨⟨rfl, rfl⟩, ⟨rfl, rfl⟩⟩
theorem sw_sy {a b x y : Nat} (h : sw a b x y) : sw b a x y := by
  rcases h with ⟨h1, h2⟩ | ⟨h1, h2⟩
  · exact Or.inr ⟨h2, h1⟩
  · exact Or.inl ⟨h2, h1⟩
theorem bC_sa {D : Nat → Nat × Nat} {c : Nat → Nat → Int} {a k : Nat} {x : Int} (h : bC D c) (hs : sb D a) (hx : 0 ≤ x ∧ x ≤ 65535) : bC D (uc c a (ua (c a) k x)) := bC_st h (by rw [hs.1, hs.2]; exact hx)
theorem bC_sf {D : Nat → Nat × Nat} {c : Nat → Nat → Int} {a k : Nat} {x : Int} (h : bC D c) (hs : bC_lo D a = -2147483648 ∧ bC_hi D a = 2147483647) (hx : -2147483648 ≤ x ∧ x ≤ 2147483647) : bC D (uc c a (ua (c a) k x)) := bC_st h (by rw [hs.1, hs.2]; exact hx)
theorem bC_sy {n : Nat} {D : Nat → Nat × Nat} {c : Nat → Nat → Int} {a k : Nat} {x : Int} (h : bC D c) (hs : byt n D a) : bC D (uc c a (ua (c a) k (mi_nb x))) := bC_st h (by rw [hs.2.1, hs.2.2]; exact mi_nb_bd x)
/-- what the rows of the class itself hold -/
def zke (Zi : Nat → Option (Nat × (Nat → Int))) : Prop := (∀ f, Zi 0 = some (3, f) → f 0 = 3 ∧ f 1 = 7 ∧ f 2 = 21) ∧ (∀ f, Zi 1 = some (3, f) → f 0 = 2 ∧ f 1 = 3 ∧ f 2 = 4) ∧ (∀ f, Zi 2 = some (3, f) → f 0 = 3 ∧ f 1 = 5 ∧ f 2 = 7) ∧ (∀ f, Zi 3 = some (32, f) → ∀ i : Nat, i < 32 → f i = jj i)
def zk (Zi : Nat → Option (Nat × (Nat → Int))) : Prop := (∃ f, Zi 0 = some (3, f) ∧ ∀ i, 0 ≤ f i ∧ f i ≤ 100) ∧ (∃ f, Zi 1 = some (3, f) ∧ ∀ i, 0 ≤ f i ∧ f i ≤ 100) ∧ (∃ f, Zi 2 = some (3, f) ∧ ∀ i, 0 ≤ f i ∧ f i ≤ 100) ∧ (∃ f, Zi 3 = some (32, f) ∧ ∀ i, 0 ≤ f i ∧ f i ≤ 15) ∧ zke Zi
theorem arr_st {n j : Nat} {D : Nat → Nat × Nat} : mi_arr n D (1000000 + j) = none := by
  unfold mi_arr
  rw [Nat.ble_eq_true_of_le (by omega)]
  simp only [cond]
  rw [if_neg (by omega)]
theorem tt_stat {Zi : Nat → Option (Nat × (Nat → Int))} {d M pc len m j : Nat} {ls : List (Option mi_V)} {st : List mi_V} {f : Nat → Int} {H : mi_H} {Q : mi_Rs → mi_H → Prop} {i : Int} (hk : mm_kT M pc = some (.iaload, len)) (ho : Zi j = some (m, f)) (hi : 0 ≤ i ∧ i < m ∧ i ≤ 2147483647) (g : tt Zi d M (pc + 1, ls, .inl (f i.toNat) :: st, H) Q) : tt Zi d M (pc, ls, .inl i :: .inr (.inl (1000000 + j)) :: st, H) Q := by
  refine tt_old (m := m) (f := f) hk arr_st ?_ hi g
  unfold mi_old
  rw [Nat.ble_eq_true_of_le (by omega)]
  show Zi (1000000 + j - 1000000) = _
  rw [Nat.add_sub_cancel_left]
  exact ho
theorem tt_thr {Zi : Nat → Option (Nat × (Nat → Int))} {d M pc len ix n : Nat} {ls : List (Option mi_V)} {st : List mi_V} {D : Nat → Nat × Nat} {s : Nat → Int} {p : Nat → Nat} {c : Nat → Nat → Int} {Q : mi_Rs → mi_H → Prop} {q : Nat × Nat} (hk : mm_kT M pc = some (.new ix, len)) (hl : mm_lk (mm_np (mm_mt M).2.1) ix = some q) (h1 : ¬ q.1 < 11 ∧ mm_thr M pc = some (mm_xic (mm_mt M).2.1 q.1) ∧ mm_xic (mm_mt M).2.1 q.1 ≠ 0) (hc : mi_cats st ≤ 8) (hn : 48 + n < 1000000) (hd : 3 ≤ d) (g : Q (.inr q.1) (n + 1, ud D (48 + n) (q.1 + 3, 0), s, p, c)) : tt Zi d M (pc, ls, st, n, D, s, p, c) Q := by
  refine tt_fn (v := .inr q.1) (w := (n + 1, ud D (48 + n) (q.1 + 3, 0), s, p, c)) ?_ (Nat.ble_eq_true_of_le hd) g
  unfold mi_act
  simp only [hk, mi_aNew, hl]
  rw [if_pos ⟨h1.1, h1.2.1, h1.2.2, hn, hc⟩]
/-- the class's world at a time -/
def cW (q : Nat) (g : Nat → Int) (H : mi_H) : Prop := bS H.2.2.1 ∧ bC H.2.1 H.2.2.2.2 ∧ wp q g H.1 H.2.1 H.2.2.2.1 H.2.2.1
theorem wp_n {g : Nat → Int} {q n : Nat} {D : Nat → Nat × Nat} {p : Nat → Nat} {s : Nat → Int} (h : wp q g n D p s) (hq : q ≤ 500000) : 48 + n < 1000000 ∧ n ≤ q + 69 := by
  obtain ⟨k4, k6, e4, e6, b4, b6, hn, ht⟩ := h.nb
  have j1 := jc_le (ln D (p 104))
  have j2 := jc_le (ln D (p 2504))
  have j3 := jc_le (ln D (p 2704))
  omega
/-- the ghost anew -/
theorem wp_rg {g : Nat → Int} {q n : Nat} {D : Nat → Nat × Nat} {p : Nat → Nat} {s : Nat → Int} (h : wp q g n D p s) : wp q s n D p s := ⟨h.nb, h.dz, h.r4, h.r6, h.c4, h.c6, h.p1, h.p25, h.p27, h.w1, h.w25, h.w27, h.m9, h.a12, h.a21, h.pp, h.s12, h.s21, h.wo, fun _ _ => rfl⟩
theorem wp_rf {g : Nat → Int} {q n : Nat} {D : Nat → Nat × Nat} {p : Nat → Nat} {s s1 : Nat → Int} {L : List Nat} (f : fr s s1 L) (hd : ∀ k ∈ wpk, k ∉ L) (h : wp q g n D p s) : wp q s1 n D p s1 := wp_rg (wp_eq (g := s1) (s := s1) (s1 := s1) (fun _ _ => rfl) (fun _ _ => rfl) (by
  have e : ∀ k ∈ wpk, s1 k = s k := fun j hj => f j (hd j hj)
  exact ⟨h.nb, h.dz, h.r4, h.r6, (by rw [e 401 (by decide)]; exact h.c4), (by rw [e 601 (by decide)]; exact h.c6), h.p1, h.p25, h.p27, (by rw [e 100 (by decide), e 101 (by decide), e 102 (by decide)]; exact h.w1), (by rw [e 2500 (by decide), e 2501 (by decide), e 2502 (by decide)]; exact h.w25), (by rw [e 2700 (by decide), e 2701 (by decide), e 2702 (by decide)]; exact h.w27), h.m9, h.a12, h.a21, h.pp, h.s12, h.s21, (by rw [e 1601 (by decide), e 1602 (by decide)]; exact h.wo), fun _ _ => rfl⟩))
theorem us_cg {s g : Nat → Int} {j k : Nat} {v : Int} (h : s k = g k) : us s j v k = us g j v k := by
  by_cases e : k = j
  · subst e; rw [us_eq, us_eq]
  · rw [us_ne e, us_ne e]; exact h
theorem us_ng {s g : Nat → Int} {j k : Nat} {v : Int} (hj : gk j = false) (hk : gk k = true) (h : s k = g k) : us s j v k = g k := by
  rw [us_ne (fun e => by rw [e, hj] at hk; cases hk)]
  exact h
