/-! what a sample of a place costs, all together -/
theorem sm_ge {f : Nat → Int} {i : Nat} : ∀ n : Nat, i < n → (∀ j, j < n → 0 ≤ f j) → f i ≤ sm f n
  | 0, h, _ => absurd h (Nat.not_lt_zero i)
  | n + 1, h, h0 => by
    rw [sm]
    by_cases e : i = n
    · subst e
      have := sm_0 (f := f) i (fun j hj => h0 j (by omega))
      omega
    · have h1 := sm_ge (f := f) (i := i) n (by omega) (fun j hj => h0 j (by omega))
      have h2 := h0 n (by omega)
      omega
theorem pot_ge {s : Nat → Int} {c : Nat → Nat → Int} {i : Nat} (hi : i < 367) (hl : 40 ≤ s 3026) : potf s c i ≤ pot s c := by
  unfold pot
  rw [if_neg (by omega)]
  exact sm_ge 367 hi (fun j _ => potf_0)
theorem pl_bd {s : Nat → Int} {t : Int} {c : Nat → Nat → Int} {i : Nat} (h : mv s) (ht : t ≤ 4096) (hp : pli s t c i) : (0 ≤ c 36 i ∧ c 36 i ≤ 300000000) ∧ (1 ≤ c 39 i ∧ c 39 i ≤ 4097) ∧ (-65536 ≤ c 37 i ∧ c 37 i ≤ 65536) ∧ (-128 ≤ c 38 i ∧ c 38 i ≤ 127) := by
  obtain ⟨p1, p2, p3, p4, p5, p6, p7, p8, p9⟩ := hp
  obtain ⟨q1, q2, q3, q4, q5⟩ := mv_q h
  have hw : (2 : Int) ^ qq s ≤ 2 ^ 16 := mi_pw q2
  have e : (2 : Int) ^ 16 = 65536 := by decide
  have hw0 : (0 : Int) < 2 ^ qq s := Int.pow_pos (by decide)
  have h1 : c 39 i * 2 ^ qq s ≤ c 39 i * 65536 := Int.mul_le_mul_of_nonneg_left (by omega) (by omega)
  omega
theorem reg_all {s : Nat → Int} {t m k E : Int} {c : Nat → Nat → Int} {i : Nat} (h : mv s) (hi : i < 365) (hp : pli s t c i) (k0 : 0 ≤ k ∧ k ≤ 30) (h1 : c 36 i ≤ c 39 i * 2 ^ k.toNat) (h2 : k = 0 ∨ c 39 i * 2 ^ (k - 1).toNat < c 36 i) (hE : 0 ≤ E) (hm0 : 0 ≤ m) (hmr : m ≤ s 3024) (hm1 : m ≤ 2 * E + 1) (hm2 : k ≠ 0 → m ≤ 2 * E) {C : Int} (hC : C = if mi_shr m k < s 3026 - s 3025 - 1 then 8 * mi_shr m k + 9 + 9 * k else 8 * (s 3026 - s 3025 - 1) + 9 + 9 * s 3025) :
    4096 * C ≤ cb s + pot s c ∧ ∀ c' : Nat → Nat → Int, (c' 36 i = if c 39 i = s 3022 then (c 36 i + E) / 2 else c 36 i + E) → (c' 39 i = (if c 39 i = s 3022 then c 39 i / 2 else c 39 i) + 1) → (∀ j, j ≠ i → c' 36 j = c 36 j) → (∀ j, j ≠ i → c' 39 j = c 39 j) → 4096 * C + pot s c' ≤ cb s + pot s c := by
  obtain ⟨p1, p2, p3, p4, p5, p6, p7, p8, p9⟩ := hp
  have hq := mv_q h
  have hx := mv_fx h
  have e2 : (k - 1).toNat = k.toNat - 1 := by omega
  rw [e2] at h2
  have h2' : k.toNat = 0 ∨ c 39 i * 2 ^ (k.toNat - 1) < c 36 i := h2.imp (fun e => by omega) id
  have ez : mi_shr m k = m / 2 ^ k.toNat := mi_shr_div (by omega) k0.1 (by omega)
  rw [ez] at hC
  obtain ⟨z0, z1⟩ := z_le (m := m) (k := k.toNat) hm0
  have hkq : k.toNat ≤ qq s := ex_q (S := c 36 i) p3 (by omega) h2'
  rcases hx.2.2.2.2.2.2.2.2.2.2 with hl | hl
  · -- LONGEST is 36 at most
    have hc : C ≤ 298 := by
      rw [hC]
      split <;> omega
    unfold cb pot
    simp only [if_pos hl]
    exact ⟨by omega, fun c' _ _ _ _ => by omega⟩
  · have key : ∀ A2 N2 : Int, (A2 = if c 39 i = s 3022 then (c 36 i + E) / 2 else c 36 i + E) → (N2 = (if c 39 i = s 3022 then c 39 i / 2 else c 39 i) + 1) → 4096 * C + qr_F (16 - qq s) (A2 * 2 ^ (16 - qq s)) N2 ≤ 1150976 + qr_F (16 - qq s) (c 36 i * 2 ^ (16 - qq s)) (c 39 i) := by
      intro A2 N2 eA eN
      refine (reg_F (A := c 36 i) (N := c 39 i) (E := E) (m := m) (C := C) (k := k.toNat) h hl p3 p1 p2 p9 hE h1 h2' hm0 hmr hm1 (fun hk => hm2 (by omega)) ?_ ?_).2
      · rw [hC]
        split
        · exact Or.inl ⟨by assumption, by omega⟩
        · exact Or.inr ⟨by omega, by omega⟩
      · by_cases hN : c 39 i = s 3022
        · rw [if_pos hN] at eA eN
          exact Or.inr ⟨by omega, eA, eN⟩
        · rw [if_neg hN] at eA eN
          exact Or.inl ⟨eA, eN⟩
    have ef : potf s c i = qr_F (16 - qq s) (c 36 i * 2 ^ (16 - qq s)) (c 39 i) := by unfold potf; rw [if_pos hi]
    have hcb : cb s = 1150976 := by unfold cb; rw [if_neg (by omega)]
    refine ⟨?_, ?_⟩
    · have k1 := key _ _ rfl rfl
      have k2 : 0 ≤ qr_F (16 - qq s) ((if c 39 i = s 3022 then (c 36 i + E) / 2 else c 36 i + E) * 2 ^ (16 - qq s)) ((if c 39 i = s 3022 then c 39 i / 2 else c 39 i) + 1) := qr_m_0 13
      have k3 := pot_ge (s := s) (c := c) (i := i) (by omega) hl
      omega
    · intro c' e36 e39 f36 f39
      have k1 := key _ _ e36 e39
      have ef' : potf s c' i = qr_F (16 - qq s) (c' 36 i * 2 ^ (16 - qq s)) (c' 39 i) := by unfold potf; rw [if_pos hi]
      rw [pot_up (c := c) (c' := c') (i := i) (by omega) f36 f39 hl]
      omega
/-- all places behind a sample -/
theorem pl_next {s s' : Nat → Int} (h : mv s) {t E : Int} {c c' : Nat → Nat → Int} {i : Nat} (ht : 0 ≤ t) (hp : pl s t c) (hi : i < 367) (hq : s' 3025 = s 3025) (hE : 0 ≤ E) (hEr : 2 * E ≤ s 3024 + 1) (hA : c' 36 i = if c 39 i = s 3022 then (c 36 i + E) / 2 else c 36 i + E) (hN : c' 39 i = (if c 39 i = s 3022 then c 39 i / 2 else c 39 i) + 1) (hB : -65536 ≤ c' 37 i ∧ c' 37 i ≤ 2 + t) (hC : -128 ≤ c' 38 i ∧ c' 38 i ≤ 127)
    (f36 : ∀ j, j ≠ i → c' 36 j = c 36 j) (f37 : ∀ j, j ≠ i → c' 37 j = c 37 j) (f38 : ∀ j, j ≠ i → c' 38 j = c 38 j) (f39 : ∀ j, j ≠ i → c' 39 j = c 39 j) : pl s' (t + 1) c' := by
  intro j hj
  by_cases e : j = i
  · subst e
    have h1 := pli_next h ht (hp j hj) hE hEr hA hN hB hC
    unfold pli qq at h1 ⊢
    rw [hq]
    exact h1
  · have h1 := hp j hj
    unfold pli qq at h1 ⊢
    rw [hq, f36 j e, f37 j e, f38 j e, f39 j e]
    omega
/-! what the pace holds back for the stops to come -/
def jj (p : Int) : Int := if p < 16 then p / 4 else if p < 24 then 4 + (p - 16) / 2 else p - 16
def psn : Nat → Int
  | 0 => 0
  | n + 1 => psn n + 9 * jj (n + 1)
def psi (p : Int) : Int := psn p.toNat
theorem psi_s {p : Int} (h : 0 ≤ p) : psi (p + 1) = psi p + 9 * jj (p + 1) := by
  unfold psi
  have e : (p + 1).toNat = p.toNat + 1 := by omega
  have e2 : ((p.toNat : Nat) : Int) + 1 = p + 1 := by omega
  rw [e, psn, e2]
theorem jj_bd {p : Int} (h : 0 ≤ p ∧ p ≤ 22) : 0 ≤ jj p ∧ jj p ≤ 7 := by
  unfold jj
  split
  · omega
  · split <;> omega
theorem psn_0 : ∀ n : Nat, 0 ≤ psn n
  | 0 => Int.le_refl 0
  | n + 1 => by
    rw [psn]
    have h1 := psn_0 n
    have h2 : 0 ≤ jj (n + 1) := by
      unfold jj
      split
      · omega
      · split <;> omega
    omega
theorem psi_0 {p : Int} : 0 ≤ psi p := psn_0 _
theorem stop_all {s : Nat → Int} {t m k E J S : Int} {c : Nat → Nat → Int} {i : Nat} (h : mv s) (hi : i = 365 ∨ i = 366) (hp : pli s t c i) (k0 : 0 ≤ k ∧ k ≤ 30) (hS : c 36 i ≤ S ∧ S ≤ c 36 i + c 39 i / 2) (h1 : S ≤ c 39 i * 2 ^ k.toNat) (h2 : k = 0 ∨ c 39 i * 2 ^ (k - 1).toNat < S) (hE : 0 ≤ E) (hm0 : 0 ≤ m) (hmr : m ≤ s 3024) (hm1 : m ≤ 2 * E + 1) (hJ : 0 ≤ J ∧ J ≤ 7) {C : Int} (hC : C = if mi_shr m k < s 3026 - 1 - J - s 3025 - 1 then 8 * mi_shr m k + 9 + 9 * k else 8 * (s 3026 - 1 - J - s 3025 - 1) + 9 + 9 * s 3025) :
    4096 * (C + 8) ≤ cb s + pot s c ∧ ∀ c' : Nat → Nat → Int, (c' 36 i = if c 39 i = s 3022 then (c 36 i + E) / 2 else c 36 i + E) → (c' 39 i = (if c 39 i = s 3022 then c 39 i / 2 else c 39 i) + 1) → (∀ j, j ≠ i → c' 36 j = c 36 j) → (∀ j, j ≠ i → c' 39 j = c 39 j) → 4096 * (C + 8) + pot s c' ≤ cb s + pot s c := by
  obtain ⟨p1, p2, p3, p4, p5, p6, p7, p8, p9⟩ := hp
  have hq := mv_q h
  have hx := mv_fx h
  have e2 : (k - 1).toNat = k.toNat - 1 := by omega
  rw [e2] at h2
  have h2' : k.toNat = 0 ∨ c 39 i * 2 ^ (k.toNat - 1) < S := h2.imp (fun e => by omega) id
  have ez : mi_shr m k = m / 2 ^ k.toNat := mi_shr_div (by omega) k0.1 (by omega)
  rw [ez] at hC
  obtain ⟨z0, z1⟩ := z_le (m := m) (k := k.toNat) hm0
  have hkq : k.toNat ≤ qq s := ex_q (S := S) p3 (by omega) h2'
  rcases hx.2.2.2.2.2.2.2.2.2.2 with hl | hl
  · have hc : C + 8 ≤ 298 := by
      rw [hC]
      split <;> omega
    unfold cb pot
    simp only [if_pos hl]
    exact ⟨by omega, fun c' _ _ _ _ => by omega⟩
  · have key : ∀ A2 N2 : Int, (A2 = if c 39 i = s 3022 then (c 36 i + E) / 2 else c 36 i + E) → (N2 = (if c 39 i = s 3022 then c 39 i / 2 else c 39 i) + 1) → 4096 * (C + 8) + qs_F (16 - qq s) (A2 * 2 ^ (16 - qq s)) N2 ≤ 1150976 + qs_F (16 - qq s) (c 36 i * 2 ^ (16 - qq s)) (c 39 i) := by
      intro A2 N2 eA eN
      refine (stop_F (A := c 36 i) (N := c 39 i) (E := E) (m := m) (C := C + 8) (k := k.toNat) (J := J) (S := S) h hl p3 p1 p2 p9 hE hS h1 h2' hm0 hmr hm1 (by omega) ?_ ?_).2
      · rw [hC]
        split
        · exact Or.inl ⟨by assumption, by omega⟩
        · exact Or.inr ⟨by omega, by omega⟩
      · by_cases hN : c 39 i = s 3022
        · rw [if_pos hN] at eA eN
          exact Or.inr ⟨by omega, eA, eN⟩
        · rw [if_neg hN] at eA eN
          exact Or.inl ⟨eA, eN⟩
    have ef : ∀ c : Nat → Nat → Int, potf s c i = qs_F (16 - qq s) (c 36 i * 2 ^ (16 - qq s)) (c 39 i) := by intro c; unfold potf; rw [if_neg (by omega)]
    have hcb : cb s = 1150976 := by unfold cb; rw [if_neg (by omega)]
    refine ⟨?_, ?_⟩
    · have k1 := key _ _ rfl rfl
      have k2 : 0 ≤ qs_F (16 - qq s) ((if c 39 i = s 3022 then (c 36 i + E) / 2 else c 36 i + E) * 2 ^ (16 - qq s)) ((if c 39 i = s 3022 then c 39 i / 2 else c 39 i) + 1) := qs_m_0 13
      have k3 := pot_ge (s := s) (c := c) (i := i) (by omega) hl
      have k4 := ef c
      omega
    · intro c' e36 e39 f36 f39
      have k1 := key _ _ e36 e39
      have k4 := ef c
      have k5 := ef c'
      rw [pot_up (c := c) (c' := c') (i := i) (by omega) f36 f39 hl]
      omega
theorem dv_ge1 {x y : Int} (hy : 0 < y) (h : y ≤ x) : 1 ≤ x / y := by
  have := Int.ediv_le_ediv hy h
  rw [Int.ediv_self (by omega)] at this
  exact this
