/-! the potentials, and one visit -/
def qr_m (g : Nat) (A N : Int) : Nat → Int
  | 0 => 0
  | j + 1 => max (qr_m g A N j) (if g ≤ j then qr_l j A N else 0)
def qr_F (g : Nat) (A N : Int) : Int := qr_m g A N 13
theorem qr_m_0 {g : Nat} {A N : Int} : ∀ j, 0 ≤ qr_m g A N j
  | 0 => Int.le_refl 0
  | j + 1 => Int.le_trans (qr_m_0 j) (Int.le_max_left _ _)
theorem qr_m_ge {g : Nat} {A N : Int} : ∀ (n j : Nat), j < n → g ≤ j → qr_l j A N ≤ qr_m g A N n
  | 0, j, h, _ => absurd h (Nat.not_lt_zero j)
  | n + 1, j, h, hg => by
    rw [qr_m]
    by_cases e : j = n
    · subst e
      rw [if_pos hg]
      exact Int.le_max_right _ _
    · exact Int.le_trans (qr_m_ge n j (by omega) hg) (Int.le_max_left _ _)
theorem qr_m_le {g : Nat} {A N X : Int} (h0 : 0 ≤ X) : ∀ n : Nat, (∀ j, g ≤ j → j < n → qr_l j A N ≤ X) → qr_m g A N n ≤ X
  | 0, _ => h0
  | n + 1, h => by
    rw [qr_m]
    refine Int.max_le.mpr ⟨qr_m_le h0 n (fun j h1 h2 => h j h1 (by omega)), ?_⟩
    split
    · rename_i hg
      exact h n hg (by omega)
    · exact h0
theorem qr_d0 {g : Nat} (hg : g ≤ 16) {A N E z C A2 N2 G : Int} (hG : G = 2 ^ g) (hN : 1 ≤ N) (hN1 : N = 1 → 512 ≤ A) (hz : 0 ≤ z) (hE : 0 ≤ E) (h1 : A ≤ N * 2 ^ g) (h3 : z * 2 ^ g ≤ 65536) (h4 : z * 2 ^ g ≤ 2 * E + G) (hC : C ≤ 529) (hm : (A2 = A + E ∧ N2 = N + 1) ∨ (3 ≤ N ∧ A + E - G ≤ 2 * A2 ∧ 2 * N2 ≤ N + 2)) (hC2 : C ≤ 8 * z + 9 ∨ (g = 0 ∧ G = 1 ∧ 47 ≤ z ∧ C ≤ 8 * z + 153) ∨ (1 ≤ g ∧ 29 ≤ z ∧ C ≤ 8 * z + 144)) : 4096 * C + qr_F g A2 N2 ≤ 1150976 + qr_F g A N := by
  have hF0 : 0 ≤ qr_F g A N := qr_m_0 13
  have hF : ∀ i : Nat, g ≤ i → i < 13 → qr_l i A N ≤ qr_F g A N := fun i h1 h2 => qr_m_ge 13 i h2 h1
  have key : (∀ j : Nat, g ≤ j → j < 13 → 4096 * C + qr_l j A2 N2 ≤ 1150976 + qr_F g A N) ∧ 4096 * C ≤ 1150976 + qr_F g A N := by
    have hgs : g = 0 ∨ g = 1 ∨ g = 2 ∨ g = 3 ∨ g = 4 ∨ g = 5 ∨ g = 6 ∨ g = 7 ∨ g = 8 ∨ g = 9 ∨ g = 10 ∨ g = 11 ∨ g = 12 ∨ g = 13 ∨ g = 14 ∨ g = 15 ∨ g = 16 := by omega
    rcases hgs with rfl | rfl | rfl | rfl | rfl | rfl | rfl | rfl | rfl | rfl | rfl | rfl | rfl | rfl | rfl | rfl | rfl
    · have e : (2 : Int) ^ 0 = 1 := by decide
      rw [e] at h1 h3 h4 hG
      exact qr_z0 hF0 hF hN hN1 hz hE h1 h3 h4 hC hm rfl hG hC2
    · have e : (2 : Int) ^ 1 = 2 := by decide
      rw [e] at h1 h3 h4 hG
      exact qr_z1 hF0 hF hN hN1 hz hE h1 h3 h4 hC hm rfl hG hC2
    · have e : (2 : Int) ^ 2 = 4 := by decide
      rw [e] at h1 h3 h4 hG
      exact qr_z2 hF0 hF hN hN1 hz hE h1 h3 h4 hC hm rfl hG hC2
    · have e : (2 : Int) ^ 3 = 8 := by decide
      rw [e] at h1 h3 h4 hG
      exact qr_z3 hF0 hF hN hN1 hz hE h1 h3 h4 hC hm rfl hG hC2
    · have e : (2 : Int) ^ 4 = 16 := by decide
      rw [e] at h1 h3 h4 hG
      exact qr_z4 hF0 hF hN hN1 hz hE h1 h3 h4 hC hm rfl hG hC2
    · have e : (2 : Int) ^ 5 = 32 := by decide
      rw [e] at h1 h3 h4 hG
      exact qr_z5 hF0 hF hN hN1 hz hE h1 h3 h4 hC hm rfl hG hC2
    · have e : (2 : Int) ^ 6 = 64 := by decide
      rw [e] at h1 h3 h4 hG
      exact qr_z6 hF0 hF hN hN1 hz hE h1 h3 h4 hC hm rfl hG hC2
    · have e : (2 : Int) ^ 7 = 128 := by decide
      rw [e] at h1 h3 h4 hG
      exact qr_z7 hF0 hF hN hN1 hz hE h1 h3 h4 hC hm rfl hG hC2
    · have e : (2 : Int) ^ 8 = 256 := by decide
      rw [e] at h1 h3 h4 hG
      exact qr_z8 hF0 hF hN hN1 hz hE h1 h3 h4 hC hm rfl hG hC2
    · have e : (2 : Int) ^ 9 = 512 := by decide
      rw [e] at h1 h3 h4 hG
      exact qr_z9 hF0 hF hN hN1 hz hE h1 h3 h4 hC hm rfl hG hC2
    · have e : (2 : Int) ^ 10 = 1024 := by decide
      rw [e] at h1 h3 h4 hG
      exact qr_z10 hF0 hF hN hN1 hz hE h1 h3 h4 hC hm rfl hG hC2
    · have e : (2 : Int) ^ 11 = 2048 := by decide
      rw [e] at h1 h3 h4 hG
      exact qr_z11 hF0 hF hN hN1 hz hE h1 h3 h4 hC hm rfl hG hC2
    · have e : (2 : Int) ^ 12 = 4096 := by decide
      rw [e] at h1 h3 h4 hG
      exact qr_z12 hF0 hF hN hN1 hz hE h1 h3 h4 hC hm rfl hG hC2
    · have e : (2 : Int) ^ 13 = 8192 := by decide
      rw [e] at h1 h3 h4 hG
      exact qr_z13 hF0 hF hN hN1 hz hE h1 h3 h4 hC hm rfl hG hC2
    · have e : (2 : Int) ^ 14 = 16384 := by decide
      rw [e] at h1 h3 h4 hG
      exact qr_z14 hF0 hF hN hN1 hz hE h1 h3 h4 hC hm rfl hG hC2
    · have e : (2 : Int) ^ 15 = 32768 := by decide
      rw [e] at h1 h3 h4 hG
      exact qr_z15 hF0 hF hN hN1 hz hE h1 h3 h4 hC hm rfl hG hC2
    · have e : (2 : Int) ^ 16 = 65536 := by decide
      rw [e] at h1 h3 h4 hG
      exact qr_z16 hF0 hF hN hN1 hz hE h1 h3 h4 hC hm rfl hG hC2
  have h5 : qr_F g A2 N2 ≤ 1150976 + qr_F g A N - 4096 * C := qr_m_le (by omega) 13 (fun j h1 h2 => by have := key.1 j h1 h2; omega)
  omega
theorem qr_d1 {g t : Nat} (hg : g + 1 ≤ t) (ht : t ≤ 16) {A N E z C A2 N2 G : Int} (hG : G = 2 ^ g) (hN : 1 ≤ N) (hN1 : N = 1 → 512 ≤ A) (hz : 0 ≤ z) (hE : 0 ≤ E) (h1 : A ≤ N * 2 ^ t) (h3 : z * 2 ^ t ≤ 65536) (h4 : z * 2 ^ t ≤ 2 * E) (hC : C ≤ 529) (hm : (A2 = A + E ∧ N2 = N + 1) ∨ (3 ≤ N ∧ A + E - G ≤ 2 * A2 ∧ 2 * N2 ≤ N + 2)) (h2 : N * 2 ^ (t - 1) < A) (hC2 : (g ≤ 1 ∧ C ≤ 8 * z + 9 * (t + 1) + 0) ∨ (g ≤ 4 ∧ C ≤ 8 * z + 9 * (t - 1) + 0) ∨ C ≤ 8 * z + 9 * (t - 4) + 0 ∨ (g = 0 ∧ G = 1 ∧ 47 ≤ z ∧ C ≤ 8 * z + 153) ∨ (1 ≤ g ∧ 29 ≤ z ∧ C ≤ 8 * z + 144)) : 4096 * C + qr_F g A2 N2 ≤ 1150976 + qr_F g A N := by
  have hF0 : 0 ≤ qr_F g A N := qr_m_0 13
  have hF : ∀ i : Nat, g ≤ i → i < 13 → qr_l i A N ≤ qr_F g A N := fun i h1 h2 => qr_m_ge 13 i h2 h1
  have hG1 : 1 ≤ G := by rw [hG]; exact Int.pow_pos (by decide)
  have hGj : ∀ j : Nat, g ≤ j → G ≤ 2 ^ j := fun j hj => by rw [hG]; exact mi_pw hj
  have key : (∀ j : Nat, g ≤ j → j < 13 → 4096 * C + qr_l j A2 N2 ≤ 1150976 + qr_F g A N) ∧ 4096 * C ≤ 1150976 + qr_F g A N := by
    have hts : t = 1 ∨ t = 2 ∨ t = 3 ∨ t = 4 ∨ t = 5 ∨ t = 6 ∨ t = 7 ∨ t = 8 ∨ t = 9 ∨ t = 10 ∨ t = 11 ∨ t = 12 ∨ t = 13 ∨ t = 14 ∨ t = 15 ∨ t = 16 := by omega
    rcases hts with rfl | rfl | rfl | rfl | rfl | rfl | rfl | rfl | rfl | rfl | rfl | rfl | rfl | rfl | rfl | rfl
    · have e : (2 : Int) ^ 1 = 2 := by decide
      have e1 : G ≤ 1 := by have h9 := hGj 0 (by omega); have e2 : (2 : Int) ^ 0 = 1 := (by decide); omega
      rw [e] at h1 h3 h4
      have e3 : (2 : Int) ^ (1 - 1) = 1 := by decide
      rw [e3] at h2
      exact qr_x1 hF0 hF hN hN1 hz hE h1 h3 h4 hC hm (by omega) ⟨hG1, e1⟩ hGj h2 (by omega)
    · have e : (2 : Int) ^ 2 = 4 := by decide
      have e1 : G ≤ 2 := by have h9 := hGj 1 (by omega); have e2 : (2 : Int) ^ 1 = 2 := (by decide); omega
      rw [e] at h1 h3 h4
      have e3 : (2 : Int) ^ (2 - 1) = 2 := by decide
      rw [e3] at h2
      exact qr_x2 hF0 hF hN hN1 hz hE h1 h3 h4 hC hm (by omega) ⟨hG1, e1⟩ hGj h2 (by omega)
    · have e : (2 : Int) ^ 3 = 8 := by decide
      have e1 : G ≤ 4 := by have h9 := hGj 2 (by omega); have e2 : (2 : Int) ^ 2 = 4 := (by decide); omega
      rw [e] at h1 h3 h4
      have e3 : (2 : Int) ^ (3 - 1) = 4 := by decide
      rw [e3] at h2
      exact qr_x3 hF0 hF hN hN1 hz hE h1 h3 h4 hC hm (by omega) ⟨hG1, e1⟩ hGj h2 (by omega)
    · have e : (2 : Int) ^ 4 = 16 := by decide
      have e1 : G ≤ 8 := by have h9 := hGj 3 (by omega); have e2 : (2 : Int) ^ 3 = 8 := (by decide); omega
      rw [e] at h1 h3 h4
      have e3 : (2 : Int) ^ (4 - 1) = 8 := by decide
      rw [e3] at h2
      exact qr_x4 hF0 hF hN hN1 hz hE h1 h3 h4 hC hm (by omega) ⟨hG1, e1⟩ hGj h2 (by omega)
    · have e : (2 : Int) ^ 5 = 32 := by decide
      have e1 : G ≤ 16 := by have h9 := hGj 4 (by omega); have e2 : (2 : Int) ^ 4 = 16 := (by decide); omega
      rw [e] at h1 h3 h4
      have e3 : (2 : Int) ^ (5 - 1) = 16 := by decide
      rw [e3] at h2
      exact qr_x5 hF0 hF hN hN1 hz hE h1 h3 h4 hC hm (by omega) ⟨hG1, e1⟩ hGj h2 (by omega)
    · have e : (2 : Int) ^ 6 = 64 := by decide
      have e1 : G ≤ 32 := by have h9 := hGj 5 (by omega); have e2 : (2 : Int) ^ 5 = 32 := (by decide); omega
      rw [e] at h1 h3 h4
      have e3 : (2 : Int) ^ (6 - 1) = 32 := by decide
      rw [e3] at h2
      exact qr_x6 hF0 hF hN hN1 hz hE h1 h3 h4 hC hm (by omega) ⟨hG1, e1⟩ hGj h2 (by omega)
    · have e : (2 : Int) ^ 7 = 128 := by decide
      have e1 : G ≤ 64 := by have h9 := hGj 6 (by omega); have e2 : (2 : Int) ^ 6 = 64 := (by decide); omega
      rw [e] at h1 h3 h4
      have e3 : (2 : Int) ^ (7 - 1) = 64 := by decide
      rw [e3] at h2
      exact qr_x7 hF0 hF hN hN1 hz hE h1 h3 h4 hC hm (by omega) ⟨hG1, e1⟩ hGj h2 (by omega)
    · have e : (2 : Int) ^ 8 = 256 := by decide
      have e1 : G ≤ 128 := by have h9 := hGj 7 (by omega); have e2 : (2 : Int) ^ 7 = 128 := (by decide); omega
      rw [e] at h1 h3 h4
      have e3 : (2 : Int) ^ (8 - 1) = 128 := by decide
      rw [e3] at h2
      exact qr_x8 hF0 hF hN hN1 hz hE h1 h3 h4 hC hm (by omega) ⟨hG1, e1⟩ hGj h2 (by omega)
    · have e : (2 : Int) ^ 9 = 512 := by decide
      have e1 : G ≤ 256 := by have h9 := hGj 8 (by omega); have e2 : (2 : Int) ^ 8 = 256 := (by decide); omega
      rw [e] at h1 h3 h4
      have e3 : (2 : Int) ^ (9 - 1) = 256 := by decide
      rw [e3] at h2
      exact qr_x9 hF0 hF hN hN1 hz hE h1 h3 h4 hC hm (by omega) ⟨hG1, e1⟩ hGj h2 (by omega)
    · have e : (2 : Int) ^ 10 = 1024 := by decide
      have e1 : G ≤ 512 := by have h9 := hGj 9 (by omega); have e2 : (2 : Int) ^ 9 = 512 := (by decide); omega
      rw [e] at h1 h3 h4
      have e3 : (2 : Int) ^ (10 - 1) = 512 := by decide
      rw [e3] at h2
      exact qr_x10 hF0 hF hN hN1 hz hE h1 h3 h4 hC hm (by omega) ⟨hG1, e1⟩ hGj h2 (by omega)
    · have e : (2 : Int) ^ 11 = 2048 := by decide
      have e1 : G ≤ 1024 := by have h9 := hGj 10 (by omega); have e2 : (2 : Int) ^ 10 = 1024 := (by decide); omega
      rw [e] at h1 h3 h4
      have e3 : (2 : Int) ^ (11 - 1) = 1024 := by decide
      rw [e3] at h2
      exact qr_x11 hF0 hF hN hN1 hz hE h1 h3 h4 hC hm (by omega) ⟨hG1, e1⟩ hGj h2 (by omega)
    · have e : (2 : Int) ^ 12 = 4096 := by decide
      have e1 : G ≤ 2048 := by have h9 := hGj 11 (by omega); have e2 : (2 : Int) ^ 11 = 2048 := (by decide); omega
      rw [e] at h1 h3 h4
      have e3 : (2 : Int) ^ (12 - 1) = 2048 := by decide
      rw [e3] at h2
      exact qr_x12 hF0 hF hN hN1 hz hE h1 h3 h4 hC hm (by omega) ⟨hG1, e1⟩ hGj h2 (by omega)
    · have e : (2 : Int) ^ 13 = 8192 := by decide
      have e1 : G ≤ 4096 := by have h9 := hGj 12 (by omega); have e2 : (2 : Int) ^ 12 = 4096 := (by decide); omega
      rw [e] at h1 h3 h4
      have e3 : (2 : Int) ^ (13 - 1) = 4096 := by decide
      rw [e3] at h2
      exact qr_x13 hF0 hF hN hN1 hz hE h1 h3 h4 hC hm (by omega) ⟨hG1, e1⟩ hGj h2 (by omega)
    · have e : (2 : Int) ^ 14 = 16384 := by decide
      have e1 : G ≤ 8192 := by have h9 := hGj 13 (by omega); have e2 : (2 : Int) ^ 13 = 8192 := (by decide); omega
      rw [e] at h1 h3 h4
      have e3 : (2 : Int) ^ (14 - 1) = 8192 := by decide
      rw [e3] at h2
      exact qr_x14 hF0 hF hN hN1 hz hE h1 h3 h4 hC hm (by omega) ⟨hG1, e1⟩ hGj h2 (by omega)
    · have e : (2 : Int) ^ 15 = 32768 := by decide
      have e1 : G ≤ 16384 := by have h9 := hGj 14 (by omega); have e2 : (2 : Int) ^ 14 = 16384 := (by decide); omega
      rw [e] at h1 h3 h4
      have e3 : (2 : Int) ^ (15 - 1) = 16384 := by decide
      rw [e3] at h2
      exact qr_x15 hF0 hF hN hN1 hz hE h1 h3 h4 hC hm (by omega) ⟨hG1, e1⟩ hGj h2 (by omega)
    · have e : (2 : Int) ^ 16 = 65536 := by decide
      have e1 : G ≤ 32768 := by have h9 := hGj 15 (by omega); have e2 : (2 : Int) ^ 15 = 32768 := (by decide); omega
      rw [e] at h1 h3 h4
      have e3 : (2 : Int) ^ (16 - 1) = 32768 := by decide
      rw [e3] at h2
      exact qr_x16 hF0 hF hN hN1 hz hE h1 h3 h4 hC hm (by omega) ⟨hG1, e1⟩ hGj h2 (by omega)
  have h5 : qr_F g A2 N2 ≤ 1150976 + qr_F g A N - 4096 * C := qr_m_le (by omega) 13 (fun j h1 h2 => by have := key.1 j h1 h2; omega)
  omega
/-- one visit: k is the exponent, z what is told by bits 0, E what A gains -/
theorem qr_step {g k : Nat} (hk : k + g ≤ 16) {A N E z C A2 N2 : Int} (hN : 1 ≤ N) (hN1 : N = 1 → 512 ≤ A * 2 ^ g) (hz : 0 ≤ z) (hE : 0 ≤ E) (h1 : A ≤ N * 2 ^ k) (h2 : k = 0 ∨ N * 2 ^ (k - 1) < A) (h3 : z * 2 ^ k * 2 ^ g ≤ 65536) (h4 : z * 2 ^ k ≤ 2 * E + 1) (h4x : k ≠ 0 → z * 2 ^ k ≤ 2 * E) (hC : C ≤ 529) (hC2 : C ≤ 8 * z + 9 * (k + 1) + 0 ∨ (g = 0 ∧ 47 ≤ z ∧ C ≤ 8 * z + 153) ∨ (1 ≤ g ∧ 29 ≤ z ∧ C ≤ 8 * z + 144))
    (hm : (A2 = A + E ∧ N2 = N + 1) ∨ (3 ≤ N ∧ A2 = (A + E) / 2 ∧ N2 = N / 2 + 1)) : 4096 * C + qr_F g (A2 * 2 ^ g) N2 ≤ 1150976 + qr_F g (A * 2 ^ g) N := by
  obtain ⟨G, hG⟩ : ∃ G : Int, G = 2 ^ g := ⟨_, rfl⟩
  have hG1 : 1 ≤ G := by rw [hG]; exact Int.pow_pos (by decide)
  have hG0 : g = 0 → G = 1 := fun e => by rw [hG, e]; rfl
  rw [← hG] at hN1 h3 ⊢
  have hE' : 0 ≤ E * G := Int.mul_nonneg hE (by omega)
  have hm' : (A2 * G = A * G + E * G ∧ N2 = N + 1) ∨ (3 ≤ N ∧ A * G + E * G - G ≤ 2 * (A2 * G) ∧ 2 * N2 ≤ N + 2) := by
    rcases hm with ⟨e1, e2⟩ | ⟨e0, e1, e2⟩
    · exact Or.inl ⟨by rw [e1, Int.add_mul], e2⟩
    · refine Or.inr ⟨e0, ?_, by omega⟩
      have h5 : (A + E - 1) * G ≤ (2 * A2) * G := Int.mul_le_mul_of_nonneg_right (by omega) (by omega)
      rw [Int.sub_mul, Int.add_mul, Int.mul_assoc] at h5
      omega
  have hlim : (g = 0 ∧ 47 ≤ z ∧ C ≤ 8 * z + 153) ∨ (1 ≤ g ∧ 29 ≤ z ∧ C ≤ 8 * z + 144) → (g = 0 ∧ G = 1 ∧ 47 ≤ z ∧ C ≤ 8 * z + 153) ∨ (1 ≤ g ∧ 29 ≤ z ∧ C ≤ 8 * z + 144) := by
    rintro (⟨e1, e2, e3⟩ | e1)
    · exact Or.inl ⟨e1, hG0 e1, e2, e3⟩
    · exact Or.inr e1
  rcases Nat.eq_zero_or_pos k with hk0 | hk0
  · subst hk0
    refine qr_d0 (E := E * G) (z := z) (G := G) (by omega) hG hN hN1 hz hE' ?_ ?_ ?_ hC hm' ?_
    · rw [← hG]; exact Int.mul_le_mul_of_nonneg_right (by simpa using h1) (by omega)
    · rw [← hG]; simpa using h3
    · rw [← hG]
      have h5 : z * G ≤ (2 * E + 1) * G := Int.mul_le_mul_of_nonneg_right (by simpa using h4) (by omega)
      rw [Int.add_mul, Int.mul_assoc] at h5
      omega
    · rcases hC2 with h9 | h9
      · exact Or.inl (by omega)
      · exact Or.inr (hlim h9)
  · have e2 : (2 : Int) ^ (k + g) = 2 ^ k * G := by rw [Int.pow_add, hG]
    refine qr_d1 (t := k + g) (E := E * G) (z := z) (G := G) (by omega) hk hG hN hN1 hz hE' ?_ ?_ ?_ hC hm' ?_ ?_
    · rw [e2, ← Int.mul_assoc]; exact Int.mul_le_mul_of_nonneg_right h1 (by omega)
    · rw [e2, ← Int.mul_assoc]; exact h3
    · rw [e2, ← Int.mul_assoc]
      have h5 : z * 2 ^ k * G ≤ (2 * E) * G := Int.mul_le_mul_of_nonneg_right (h4x (by omega)) (by omega)
      rw [Int.mul_assoc 2 E G] at h5
      exact h5
    · rcases h2 with h2 | h2
      · omega
      · have e3 : (2 : Int) ^ (k + g - 1) = 2 ^ (k - 1) * G := by rw [show k + g - 1 = (k - 1) + g by omega, Int.pow_add, hG]
        rw [e3, ← Int.mul_assoc]
        exact Int.mul_lt_mul_of_pos_right h2 (by omega)
    · rcases hC2 with h9 | h9
      · by_cases hg2 : g ≤ 1
        · exact Or.inl ⟨hg2, by omega⟩
        · by_cases hg5 : g ≤ 4
          · exact Or.inr (Or.inl ⟨hg5, by omega⟩)
          · exact Or.inr (Or.inr (Or.inl (by omega)))
      · exact Or.inr (Or.inr (Or.inr (hlim h9)))
def qs_m (g : Nat) (A N : Int) : Nat → Int
  | 0 => 0
  | j + 1 => max (qs_m g A N j) (if g ≤ j then qs_l j A N else 0)
def qs_F (g : Nat) (A N : Int) : Int := qs_m g A N 13
theorem qs_m_0 {g : Nat} {A N : Int} : ∀ j, 0 ≤ qs_m g A N j
  | 0 => Int.le_refl 0
  | j + 1 => Int.le_trans (qs_m_0 j) (Int.le_max_left _ _)
theorem qs_m_ge {g : Nat} {A N : Int} : ∀ (n j : Nat), j < n → g ≤ j → qs_l j A N ≤ qs_m g A N n
  | 0, j, h, _ => absurd h (Nat.not_lt_zero j)
  | n + 1, j, h, hg => by
    rw [qs_m]
    by_cases e : j = n
    · subst e
      rw [if_pos hg]
      exact Int.le_max_right _ _
    · exact Int.le_trans (qs_m_ge n j (by omega) hg) (Int.le_max_left _ _)
theorem qs_m_le {g : Nat} {A N X : Int} (h0 : 0 ≤ X) : ∀ n : Nat, (∀ j, g ≤ j → j < n → qs_l j A N ≤ X) → qs_m g A N n ≤ X
  | 0, _ => h0
  | n + 1, h => by
    rw [qs_m]
    refine Int.max_le.mpr ⟨qs_m_le h0 n (fun j h1 h2 => h j h1 (by omega)), ?_⟩
    split
    · rename_i hg
      exact h n hg (by omega)
    · exact h0
theorem qs_d0 {g : Nat} (hg : g ≤ 16) {A N E z C A2 N2 G : Int} (hG : G = 2 ^ g) (hN : 1 ≤ N) (hN1 : N = 1 → 512 ≤ A) (hz : 0 ≤ z) (hE : 0 ≤ E) (h1 : A ≤ N * 2 ^ g) (h3 : z * 2 ^ g ≤ 65536) (h4 : z * 2 ^ g ≤ 2 * E + G) (hC : C ≤ 529) (hm : (A2 = A + E ∧ N2 = N + 1) ∨ (3 ≤ N ∧ A + E - G ≤ 2 * A2 ∧ 2 * N2 ≤ N + 2)) (hC2 : C ≤ 8 * z + 17 ∨ (g = 0 ∧ G = 1 ∧ 31 ≤ z ∧ C ≤ 8 * z + 161) ∨ (1 ≤ g ∧ 13 ≤ z ∧ C ≤ 8 * z + 152)) : 4096 * C + qs_F g A2 N2 ≤ 1150976 + qs_F g A N := by
  have hF0 : 0 ≤ qs_F g A N := qs_m_0 13
  have hF : ∀ i : Nat, g ≤ i → i < 13 → qs_l i A N ≤ qs_F g A N := fun i h1 h2 => qs_m_ge 13 i h2 h1
  have key : (∀ j : Nat, g ≤ j → j < 13 → 4096 * C + qs_l j A2 N2 ≤ 1150976 + qs_F g A N) ∧ 4096 * C ≤ 1150976 + qs_F g A N := by
    have hgs : g = 0 ∨ g = 1 ∨ g = 2 ∨ g = 3 ∨ g = 4 ∨ g = 5 ∨ g = 6 ∨ g = 7 ∨ g = 8 ∨ g = 9 ∨ g = 10 ∨ g = 11 ∨ g = 12 ∨ g = 13 ∨ g = 14 ∨ g = 15 ∨ g = 16 := by omega
    rcases hgs with rfl | rfl | rfl | rfl | rfl | rfl | rfl | rfl | rfl | rfl | rfl | rfl | rfl | rfl | rfl | rfl | rfl
    · have e : (2 : Int) ^ 0 = 1 := by decide
      rw [e] at h1 h3 h4 hG
      exact qs_z0 hF0 hF hN hN1 hz hE h1 h3 h4 hC hm rfl hG hC2
    · have e : (2 : Int) ^ 1 = 2 := by decide
      rw [e] at h1 h3 h4 hG
      exact qs_z1 hF0 hF hN hN1 hz hE h1 h3 h4 hC hm rfl hG hC2
    · have e : (2 : Int) ^ 2 = 4 := by decide
      rw [e] at h1 h3 h4 hG
      exact qs_z2 hF0 hF hN hN1 hz hE h1 h3 h4 hC hm rfl hG hC2
    · have e : (2 : Int) ^ 3 = 8 := by decide
      rw [e] at h1 h3 h4 hG
      exact qs_z3 hF0 hF hN hN1 hz hE h1 h3 h4 hC hm rfl hG hC2
    · have e : (2 : Int) ^ 4 = 16 := by decide
      rw [e] at h1 h3 h4 hG
      exact qs_z4 hF0 hF hN hN1 hz hE h1 h3 h4 hC hm rfl hG hC2
    · have e : (2 : Int) ^ 5 = 32 := by decide
      rw [e] at h1 h3 h4 hG
      exact qs_z5 hF0 hF hN hN1 hz hE h1 h3 h4 hC hm rfl hG hC2
    · have e : (2 : Int) ^ 6 = 64 := by decide
      rw [e] at h1 h3 h4 hG
      exact qs_z6 hF0 hF hN hN1 hz hE h1 h3 h4 hC hm rfl hG hC2
    · have e : (2 : Int) ^ 7 = 128 := by decide
      rw [e] at h1 h3 h4 hG
      exact qs_z7 hF0 hF hN hN1 hz hE h1 h3 h4 hC hm rfl hG hC2
    · have e : (2 : Int) ^ 8 = 256 := by decide
      rw [e] at h1 h3 h4 hG
      exact qs_z8 hF0 hF hN hN1 hz hE h1 h3 h4 hC hm rfl hG hC2
    · have e : (2 : Int) ^ 9 = 512 := by decide
      rw [e] at h1 h3 h4 hG
      exact qs_z9 hF0 hF hN hN1 hz hE h1 h3 h4 hC hm rfl hG hC2
    · have e : (2 : Int) ^ 10 = 1024 := by decide
      rw [e] at h1 h3 h4 hG
      exact qs_z10 hF0 hF hN hN1 hz hE h1 h3 h4 hC hm rfl hG hC2
    · have e : (2 : Int) ^ 11 = 2048 := by decide
      rw [e] at h1 h3 h4 hG
      exact qs_z11 hF0 hF hN hN1 hz hE h1 h3 h4 hC hm rfl hG hC2
    · have e : (2 : Int) ^ 12 = 4096 := by decide
      rw [e] at h1 h3 h4 hG
      exact qs_z12 hF0 hF hN hN1 hz hE h1 h3 h4 hC hm rfl hG hC2
    · have e : (2 : Int) ^ 13 = 8192 := by decide
      rw [e] at h1 h3 h4 hG
      exact qs_z13 hF0 hF hN hN1 hz hE h1 h3 h4 hC hm rfl hG hC2
    · have e : (2 : Int) ^ 14 = 16384 := by decide
      rw [e] at h1 h3 h4 hG
      exact qs_z14 hF0 hF hN hN1 hz hE h1 h3 h4 hC hm rfl hG hC2
    · have e : (2 : Int) ^ 15 = 32768 := by decide
      rw [e] at h1 h3 h4 hG
      exact qs_z15 hF0 hF hN hN1 hz hE h1 h3 h4 hC hm rfl hG hC2
    · have e : (2 : Int) ^ 16 = 65536 := by decide
      rw [e] at h1 h3 h4 hG
      exact qs_z16 hF0 hF hN hN1 hz hE h1 h3 h4 hC hm rfl hG hC2
  have h5 : qs_F g A2 N2 ≤ 1150976 + qs_F g A N - 4096 * C := qs_m_le (by omega) 13 (fun j h1 h2 => by have := key.1 j h1 h2; omega)
  omega
theorem qs_d1 {g t : Nat} (hg : g + 1 ≤ t) (ht : t ≤ 16) {A N E z C A2 N2 G : Int} (hG : G = 2 ^ g) (hN : 1 ≤ N) (hN1 : N = 1 → 512 ≤ A) (hz : 0 ≤ z) (hE : 0 ≤ E) (h1 : A ≤ N * 2 ^ t) (h3 : z * 2 ^ t ≤ 65536) (h4 : z * 2 ^ t ≤ 2 * E + G) (hC : C ≤ 529) (hm : (A2 = A + E ∧ N2 = N + 1) ∨ (3 ≤ N ∧ A + E - G ≤ 2 * A2 ∧ 2 * N2 ≤ N + 2)) (h2 : N * (2 ^ t - G) ≤ 2 * A) (hC2 : (g ≤ 1 ∧ C ≤ 8 * z + 9 * (t + 1) + 8) ∨ (g ≤ 4 ∧ C ≤ 8 * z + 9 * (t - 1) + 8) ∨ C ≤ 8 * z + 9 * (t - 4) + 8 ∨ (g = 0 ∧ G = 1 ∧ 31 ≤ z ∧ C ≤ 8 * z + 161) ∨ (1 ≤ g ∧ 13 ≤ z ∧ C ≤ 8 * z + 152)) : 4096 * C + qs_F g A2 N2 ≤ 1150976 + qs_F g A N := by
  have hF0 : 0 ≤ qs_F g A N := qs_m_0 13
  have hF : ∀ i : Nat, g ≤ i → i < 13 → qs_l i A N ≤ qs_F g A N := fun i h1 h2 => qs_m_ge 13 i h2 h1
  have hG1 : 1 ≤ G := by rw [hG]; exact Int.pow_pos (by decide)
  have hGj : ∀ j : Nat, g ≤ j → G ≤ 2 ^ j := fun j hj => by rw [hG]; exact mi_pw hj
  have h2j : ∀ j : Nat, g ≤ j → N * (2 ^ t - 2 ^ j) ≤ 2 * A := fun j hj => by
    have h5 : N * (2 ^ t - 2 ^ j) ≤ N * (2 ^ t - G) := Int.mul_le_mul_of_nonneg_left (by have := hGj j hj; omega) (by omega)
    omega
  have key : (∀ j : Nat, g ≤ j → j < 13 → 4096 * C + qs_l j A2 N2 ≤ 1150976 + qs_F g A N) ∧ 4096 * C ≤ 1150976 + qs_F g A N := by
    clear h2
    have hts : t = 1 ∨ t = 2 ∨ t = 3 ∨ t = 4 ∨ t = 5 ∨ t = 6 ∨ t = 7 ∨ t = 8 ∨ t = 9 ∨ t = 10 ∨ t = 11 ∨ t = 12 ∨ t = 13 ∨ t = 14 ∨ t = 15 ∨ t = 16 := by omega
    rcases hts with rfl | rfl | rfl | rfl | rfl | rfl | rfl | rfl | rfl | rfl | rfl | rfl | rfl | rfl | rfl | rfl
    · have e : (2 : Int) ^ 1 = 2 := by decide
      have e1 : G ≤ 1 := by have h9 := hGj 0 (by omega); have e2 : (2 : Int) ^ 0 = 1 := (by decide); omega
      rw [e] at h1 h3 h4
      simp only [e] at h2j
      exact qs_x1 hF0 hF hN hN1 hz hE h1 h3 h4 hC hm (by omega) ⟨hG1, e1⟩ hGj h2j (by omega)
    · have e : (2 : Int) ^ 2 = 4 := by decide
      have e1 : G ≤ 2 := by have h9 := hGj 1 (by omega); have e2 : (2 : Int) ^ 1 = 2 := (by decide); omega
      rw [e] at h1 h3 h4
      simp only [e] at h2j
      exact qs_x2 hF0 hF hN hN1 hz hE h1 h3 h4 hC hm (by omega) ⟨hG1, e1⟩ hGj h2j (by omega)
    · have e : (2 : Int) ^ 3 = 8 := by decide
      have e1 : G ≤ 4 := by have h9 := hGj 2 (by omega); have e2 : (2 : Int) ^ 2 = 4 := (by decide); omega
      rw [e] at h1 h3 h4
      simp only [e] at h2j
      exact qs_x3 hF0 hF hN hN1 hz hE h1 h3 h4 hC hm (by omega) ⟨hG1, e1⟩ hGj h2j (by omega)
    · have e : (2 : Int) ^ 4 = 16 := by decide
      have e1 : G ≤ 8 := by have h9 := hGj 3 (by omega); have e2 : (2 : Int) ^ 3 = 8 := (by decide); omega
      rw [e] at h1 h3 h4
      simp only [e] at h2j
      exact qs_x4 hF0 hF hN hN1 hz hE h1 h3 h4 hC hm (by omega) ⟨hG1, e1⟩ hGj h2j (by omega)
    · have e : (2 : Int) ^ 5 = 32 := by decide
      have e1 : G ≤ 16 := by have h9 := hGj 4 (by omega); have e2 : (2 : Int) ^ 4 = 16 := (by decide); omega
      rw [e] at h1 h3 h4
      simp only [e] at h2j
      exact qs_x5 hF0 hF hN hN1 hz hE h1 h3 h4 hC hm (by omega) ⟨hG1, e1⟩ hGj h2j (by omega)
    · have e : (2 : Int) ^ 6 = 64 := by decide
      have e1 : G ≤ 32 := by have h9 := hGj 5 (by omega); have e2 : (2 : Int) ^ 5 = 32 := (by decide); omega
      rw [e] at h1 h3 h4
      simp only [e] at h2j
      exact qs_x6 hF0 hF hN hN1 hz hE h1 h3 h4 hC hm (by omega) ⟨hG1, e1⟩ hGj h2j (by omega)
    · have e : (2 : Int) ^ 7 = 128 := by decide
      have e1 : G ≤ 64 := by have h9 := hGj 6 (by omega); have e2 : (2 : Int) ^ 6 = 64 := (by decide); omega
      rw [e] at h1 h3 h4
      simp only [e] at h2j
      exact qs_x7 hF0 hF hN hN1 hz hE h1 h3 h4 hC hm (by omega) ⟨hG1, e1⟩ hGj h2j (by omega)
    · have e : (2 : Int) ^ 8 = 256 := by decide
      have e1 : G ≤ 128 := by have h9 := hGj 7 (by omega); have e2 : (2 : Int) ^ 7 = 128 := (by decide); omega
      rw [e] at h1 h3 h4
      simp only [e] at h2j
      exact qs_x8 hF0 hF hN hN1 hz hE h1 h3 h4 hC hm (by omega) ⟨hG1, e1⟩ hGj h2j (by omega)
    · have e : (2 : Int) ^ 9 = 512 := by decide
      have e1 : G ≤ 256 := by have h9 := hGj 8 (by omega); have e2 : (2 : Int) ^ 8 = 256 := (by decide); omega
      rw [e] at h1 h3 h4
      simp only [e] at h2j
      exact qs_x9 hF0 hF hN hN1 hz hE h1 h3 h4 hC hm (by omega) ⟨hG1, e1⟩ hGj h2j (by omega)
    · have e : (2 : Int) ^ 10 = 1024 := by decide
      have e1 : G ≤ 512 := by have h9 := hGj 9 (by omega); have e2 : (2 : Int) ^ 9 = 512 := (by decide); omega
      rw [e] at h1 h3 h4
      simp only [e] at h2j
      exact qs_x10 hF0 hF hN hN1 hz hE h1 h3 h4 hC hm (by omega) ⟨hG1, e1⟩ hGj h2j (by omega)
    · have e : (2 : Int) ^ 11 = 2048 := by decide
      have e1 : G ≤ 1024 := by have h9 := hGj 10 (by omega); have e2 : (2 : Int) ^ 10 = 1024 := (by decide); omega
      rw [e] at h1 h3 h4
      simp only [e] at h2j
      exact qs_x11 hF0 hF hN hN1 hz hE h1 h3 h4 hC hm (by omega) ⟨hG1, e1⟩ hGj h2j (by omega)
    · have e : (2 : Int) ^ 12 = 4096 := by decide
      have e1 : G ≤ 2048 := by have h9 := hGj 11 (by omega); have e2 : (2 : Int) ^ 11 = 2048 := (by decide); omega
      rw [e] at h1 h3 h4
      simp only [e] at h2j
      exact qs_x12 hF0 hF hN hN1 hz hE h1 h3 h4 hC hm (by omega) ⟨hG1, e1⟩ hGj h2j (by omega)
    · have e : (2 : Int) ^ 13 = 8192 := by decide
      have e1 : G ≤ 4096 := by have h9 := hGj 12 (by omega); have e2 : (2 : Int) ^ 12 = 4096 := (by decide); omega
      rw [e] at h1 h3 h4
      simp only [e] at h2j
      exact qs_x13 hF0 hF hN hN1 hz hE h1 h3 h4 hC hm (by omega) ⟨hG1, e1⟩ hGj h2j (by omega)
    · have e : (2 : Int) ^ 14 = 16384 := by decide
      have e1 : G ≤ 8192 := by have h9 := hGj 13 (by omega); have e2 : (2 : Int) ^ 13 = 8192 := (by decide); omega
      rw [e] at h1 h3 h4
      simp only [e] at h2j
      exact qs_x14 hF0 hF hN hN1 hz hE h1 h3 h4 hC hm (by omega) ⟨hG1, e1⟩ hGj h2j (by omega)
    · have e : (2 : Int) ^ 15 = 32768 := by decide
      have e1 : G ≤ 16384 := by have h9 := hGj 14 (by omega); have e2 : (2 : Int) ^ 14 = 16384 := (by decide); omega
      rw [e] at h1 h3 h4
      simp only [e] at h2j
      exact qs_x15 hF0 hF hN hN1 hz hE h1 h3 h4 hC hm (by omega) ⟨hG1, e1⟩ hGj h2j (by omega)
    · have e : (2 : Int) ^ 16 = 65536 := by decide
      have e1 : G ≤ 32768 := by have h9 := hGj 15 (by omega); have e2 : (2 : Int) ^ 15 = 32768 := (by decide); omega
      rw [e] at h1 h3 h4
      simp only [e] at h2j
      exact qs_x16 hF0 hF hN hN1 hz hE h1 h3 h4 hC hm (by omega) ⟨hG1, e1⟩ hGj h2j (by omega)
  have h5 : qs_F g A2 N2 ≤ 1150976 + qs_F g A N - 4096 * C := qs_m_le (by omega) 13 (fun j h1 h2 => by have := key.1 j h1 h2; omega)
  omega
/-- one visit: k is the exponent, z what is told by bits 0, E what A gains -/
theorem qs_step {g k : Nat} (hk : k + g ≤ 16) {A N E z C A2 N2 : Int} (hN : 1 ≤ N) (hN1 : N = 1 → 512 ≤ A * 2 ^ g) (hz : 0 ≤ z) (hE : 0 ≤ E) (h1 : A ≤ N * 2 ^ k) (h2 : k = 0 ∨ N * 2 ^ (k - 1) < A + N / 2) (h3 : z * 2 ^ k * 2 ^ g ≤ 65536) (h4 : z * 2 ^ k ≤ 2 * E + 1) (hC : C ≤ 529) (hC2 : C ≤ 8 * z + 9 * (k + 1) + 8 ∨ (g = 0 ∧ 31 ≤ z ∧ C ≤ 8 * z + 161) ∨ (1 ≤ g ∧ 13 ≤ z ∧ C ≤ 8 * z + 152))
    (hm : (A2 = A + E ∧ N2 = N + 1) ∨ (3 ≤ N ∧ A2 = (A + E) / 2 ∧ N2 = N / 2 + 1)) : 4096 * C + qs_F g (A2 * 2 ^ g) N2 ≤ 1150976 + qs_F g (A * 2 ^ g) N := by
  obtain ⟨G, hG⟩ : ∃ G : Int, G = 2 ^ g := ⟨_, rfl⟩
  have hG1 : 1 ≤ G := by rw [hG]; exact Int.pow_pos (by decide)
  have hG0 : g = 0 → G = 1 := fun e => by rw [hG, e]; rfl
  rw [← hG] at hN1 h3 ⊢
  have hE' : 0 ≤ E * G := Int.mul_nonneg hE (by omega)
  have hm' : (A2 * G = A * G + E * G ∧ N2 = N + 1) ∨ (3 ≤ N ∧ A * G + E * G - G ≤ 2 * (A2 * G) ∧ 2 * N2 ≤ N + 2) := by
    rcases hm with ⟨e1, e2⟩ | ⟨e0, e1, e2⟩
    · exact Or.inl ⟨by rw [e1, Int.add_mul], e2⟩
    · refine Or.inr ⟨e0, ?_, by omega⟩
      have h5 : (A + E - 1) * G ≤ (2 * A2) * G := Int.mul_le_mul_of_nonneg_right (by omega) (by omega)
      rw [Int.sub_mul, Int.add_mul, Int.mul_assoc] at h5
      omega
  have hlim : (g = 0 ∧ 31 ≤ z ∧ C ≤ 8 * z + 161) ∨ (1 ≤ g ∧ 13 ≤ z ∧ C ≤ 8 * z + 152) → (g = 0 ∧ G = 1 ∧ 31 ≤ z ∧ C ≤ 8 * z + 161) ∨ (1 ≤ g ∧ 13 ≤ z ∧ C ≤ 8 * z + 152) := by
    rintro (⟨e1, e2, e3⟩ | e1)
    · exact Or.inl ⟨e1, hG0 e1, e2, e3⟩
    · exact Or.inr e1
  rcases Nat.eq_zero_or_pos k with hk0 | hk0
  · subst hk0
    refine qs_d0 (E := E * G) (z := z) (G := G) (by omega) hG hN hN1 hz hE' ?_ ?_ ?_ hC hm' ?_
    · rw [← hG]; exact Int.mul_le_mul_of_nonneg_right (by simpa using h1) (by omega)
    · rw [← hG]; simpa using h3
    · rw [← hG]
      have h5 : z * G ≤ (2 * E + 1) * G := Int.mul_le_mul_of_nonneg_right (by simpa using h4) (by omega)
      rw [Int.add_mul, Int.mul_assoc] at h5
      omega
    · rcases hC2 with h9 | h9
      · exact Or.inl (by omega)
      · exact Or.inr (hlim h9)
  · have e2 : (2 : Int) ^ (k + g) = 2 ^ k * G := by rw [Int.pow_add, hG]
    refine qs_d1 (t := k + g) (E := E * G) (z := z) (G := G) (by omega) hk hG hN hN1 hz hE' ?_ ?_ ?_ hC hm' ?_ ?_
    · rw [e2, ← Int.mul_assoc]; exact Int.mul_le_mul_of_nonneg_right h1 (by omega)
    · rw [e2, ← Int.mul_assoc]; exact h3
    · rw [e2, ← Int.mul_assoc]
      have h5 : z * 2 ^ k * G ≤ (2 * E + 1) * G := Int.mul_le_mul_of_nonneg_right h4 (by omega)
      rw [Int.add_mul, Int.mul_assoc 2 E G] at h5
      omega
    · rcases h2 with h2 | h2
      · omega
      · obtain ⟨j, rfl⟩ : ∃ j, k = j + 1 := ⟨k - 1, by omega⟩
        have e3 : (2 : Int) ^ (j + 1) = 2 ^ j * 2 := Int.pow_succ 2 j
        rw [Nat.add_sub_cancel] at h2
        have h6 : N * 2 ^ (j + 1) - N ≤ 2 * A := by
          rw [e3, ← Int.mul_assoc]
          omega
        have h7 : (N * 2 ^ (j + 1) - N) * G ≤ (2 * A) * G := Int.mul_le_mul_of_nonneg_right h6 (by omega)
        rw [e2, Int.mul_sub, ← Int.mul_assoc]
        rw [Int.sub_mul, Int.mul_assoc 2 A G] at h7
        exact h7
    · rcases hC2 with h9 | h9
      · by_cases hg2 : g ≤ 1
        · exact Or.inl ⟨hg2, by omega⟩
        · by_cases hg5 : g ≤ 4
          · exact Or.inr (Or.inl ⟨hg5, by omega⟩)
          · exact Or.inr (Or.inr (Or.inl (by omega)))
      · exact Or.inr (Or.inr (Or.inr (hlim h9)))
/-! sums -/
def sm (f : Nat → Int) : Nat → Int
  | 0 => 0
  | n + 1 => sm f n + f n
theorem sm_eq {f f' : Nat → Int} : ∀ n : Nat, (∀ j, j < n → f' j = f j) → sm f' n = sm f n
  | 0, _ => rfl
  | n + 1, h => by rw [sm, sm, sm_eq n (fun j hj => h j (by omega)), h n (by omega)]
theorem sm_up {f f' : Nat → Int} {i : Nat} : ∀ n : Nat, i < n → (∀ j, j < n → j ≠ i → f' j = f j) → sm f' n = sm f n + f' i - f i
  | 0, h, _ => absurd h (Nat.not_lt_zero i)
  | n + 1, h, hj => by
    rw [sm, sm]
    by_cases e : i = n
    · subst e
      rw [sm_eq i (fun j h1 => hj j (by omega) (by omega))]
      omega
    · rw [sm_up n (by omega) (fun j h1 h2 => hj j (by omega) h2), hj n (by omega) (Ne.symm e)]
      omega
theorem sm_le {f : Nat → Int} {X : Int} : ∀ n : Nat, (∀ j, j < n → f j ≤ X) → sm f n ≤ n * X
  | 0, _ => by rw [sm]; simp
  | n + 1, h => by
    rw [sm]
    have h1 := sm_le n (fun j hj => h j (by omega))
    have h2 := h n (by omega)
    have h3 : ((n + 1 : Nat) : Int) * X = n * X + X := by rw [Int.natCast_add, Int.add_mul]; simp
    rw [h3]
    omega
theorem sm_0 {f : Nat → Int} : ∀ n : Nat, (∀ j, j < n → 0 ≤ f j) → 0 ≤ sm f n
  | 0, _ => Int.le_refl 0
  | n + 1, h => by
    rw [sm]
    have h1 := sm_0 n (fun j hj => h j (by omega))
    have h2 := h n (by omega)
    omega
