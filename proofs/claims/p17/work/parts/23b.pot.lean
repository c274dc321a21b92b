/-! the potential of a stop: what it can still cost above 281 eighths of a bit a sample. In 4096th parts; A is scaled by 2^(16 - q) -/
def qs_a (j : Nat) : Int := match j with
  | 0 => 798720
  | 1 => 737280
  | 2 => 675840
  | 3 => 614400
  | 4 => 552960
  | 5 => 491520
  | 6 => 430080
  | 7 => 368640
  | 8 => 307200
  | 9 => 245760
  | 10 => 184320
  | 11 => 122880
  | _ => 61440
def qs_c (j : Nat) : Int := match j with
  | 0 => 6190080
  | 1 => 5713920
  | 2 => 5237760
  | 3 => 4761600
  | 4 => 4285440
  | 5 => 3809280
  | 6 => 3333120
  | 7 => 2856960
  | 8 => 2380800
  | 9 => 1904640
  | 10 => 1428480
  | 11 => 952320
  | _ => 476160
def qs_b (j : Nat) : Int := match j with
  | 0 => 122880
  | 1 => 61440
  | 2 => 30720
  | 3 => 15360
  | 4 => 7680
  | 5 => 3840
  | 6 => 1920
  | 7 => 960
  | 8 => 480
  | 9 => 240
  | 10 => 120
  | 11 => 60
  | _ => 30
def qs_l (j : Nat) (A N : Int) : Int := qs_a j * N + qs_c j - qs_b j * A
theorem qs_x1 {g : Nat} {A N E z C F A2 N2 G : Int} (hF0 : 0 ≤ F) (hF : ∀ i : Nat, g ≤ i → i < 13 → qs_l i A N ≤ F) (hN : 1 ≤ N) (hN1 : N = 1 → 512 ≤ A) (hz : 0 ≤ z) (hE : 0 ≤ E) (h1 : A ≤ N * 2) (h3 : z * 2 ≤ 65536) (h4 : z * 2 ≤ 2 * E + G) (hC : C ≤ 529) (hm : (A2 = A + E ∧ N2 = N + 1) ∨ (3 ≤ N ∧ A + E - G ≤ 2 * A2 ∧ 2 * N2 ≤ N + 2)) (hg : g ≤ 0) (hG : 1 ≤ G ∧ G ≤ 1) (hGj : ∀ j : Nat, g ≤ j → G ≤ 2 ^ j) (h2 : ∀ j : Nat, g ≤ j → N * (2 - 2 ^ j) ≤ 2 * A) (hC2 : (g ≤ 1 ∧ C ≤ 8 * z + 26) ∨ (g ≤ 4 ∧ C ≤ 8 * z + 8) ∨ C ≤ 8 * z + -19 ∨ (g = 0 ∧ G = 1 ∧ 31 ≤ z ∧ C ≤ 8 * z + 161) ∨ (1 ≤ g ∧ 13 ≤ z ∧ C ≤ 8 * z + 152)) : (∀ j : Nat, g ≤ j → j < 13 → 4096 * C + qs_l j A2 N2 ≤ 1150976 + F) ∧ 4096 * C ≤ 1150976 + F := by
  constructor
  · intro j hj1 hj2
    have hjs : j = 0 ∨ j = 1 ∨ j = 2 ∨ j = 3 ∨ j = 4 ∨ j = 5 ∨ j = 6 ∨ j = 7 ∨ j = 8 ∨ j = 9 ∨ j = 10 ∨ j = 11 ∨ j = 12 := by omega
    rcases hjs with rfl | rfl | rfl | rfl | rfl | rfl | rfl | rfl | rfl | rfl | rfl | rfl | rfl
    · show 4096 * C + (798720 * N2 + 6190080 - 122880 * A2) ≤ 1150976 + F
      have f0 : 798720 * N + 6190080 - 122880 * A ≤ F := hF 0 (by omega) (by decide)
      have g1 : G ≤ 1 := hGj 0 (by omega)
      have g2 : N * (2 - 1) ≤ 2 * A := h2 0 (by omega)
      rcases hC2 with ⟨hq, hc⟩ | ⟨hq, hc⟩ | hc | hc
      · have u1 : G ≤ 2 := hGj 1 hq
        have u2 : N * (2 - 2) ≤ 2 * A := h2 1 hq
        clear hF hGj h2
        omega
      · have u1 : G ≤ 16 := hGj 4 hq
        have u2 : N * (2 - 16) ≤ 2 * A := h2 4 hq
        clear hF hGj h2
        omega
      · clear hF hGj h2
        omega
      · clear hF hGj h2
        omega
    · show 4096 * C + (737280 * N2 + 5713920 - 61440 * A2) ≤ 1150976 + F
      have f1 : 737280 * N + 5713920 - 61440 * A ≤ F := hF 1 (by omega) (by decide)
      have g1 : G ≤ 1 := hGj 0 (by omega)
      have g2 : N * (2 - 1) ≤ 2 * A := h2 0 (by omega)
      rcases hC2 with ⟨hq, hc⟩ | ⟨hq, hc⟩ | hc | hc
      · have u1 : G ≤ 2 := hGj 1 hq
        have u2 : N * (2 - 2) ≤ 2 * A := h2 1 hq
        clear hF hGj h2
        omega
      · have u1 : G ≤ 16 := hGj 4 hq
        have u2 : N * (2 - 16) ≤ 2 * A := h2 4 hq
        clear hF hGj h2
        omega
      · clear hF hGj h2
        omega
      · clear hF hGj h2
        omega
    · show 4096 * C + (675840 * N2 + 5237760 - 30720 * A2) ≤ 1150976 + F
      have f1 : 737280 * N + 5713920 - 61440 * A ≤ F := hF 1 (by omega) (by decide)
      have f2 : 675840 * N + 5237760 - 30720 * A ≤ F := hF 2 (by omega) (by decide)
      have g1 : G ≤ 1 := hGj 0 (by omega)
      have g2 : N * (2 - 1) ≤ 2 * A := h2 0 (by omega)
      rcases hC2 with ⟨hq, hc⟩ | ⟨hq, hc⟩ | hc | hc
      · have u1 : G ≤ 2 := hGj 1 hq
        have u2 : N * (2 - 2) ≤ 2 * A := h2 1 hq
        clear hF hGj h2
        omega
      · have u1 : G ≤ 16 := hGj 4 hq
        have u2 : N * (2 - 16) ≤ 2 * A := h2 4 hq
        clear hF hGj h2
        omega
      · clear hF hGj h2
        omega
      · clear hF hGj h2
        omega
    · show 4096 * C + (614400 * N2 + 4761600 - 15360 * A2) ≤ 1150976 + F
      have f1 : 737280 * N + 5713920 - 61440 * A ≤ F := hF 1 (by omega) (by decide)
      have f2 : 675840 * N + 5237760 - 30720 * A ≤ F := hF 2 (by omega) (by decide)
      have g1 : G ≤ 1 := hGj 0 (by omega)
      have g2 : N * (2 - 1) ≤ 2 * A := h2 0 (by omega)
      rcases hC2 with ⟨hq, hc⟩ | ⟨hq, hc⟩ | hc | hc
      · have u1 : G ≤ 2 := hGj 1 hq
        have u2 : N * (2 - 2) ≤ 2 * A := h2 1 hq
        clear hF hGj h2
        omega
      · have u1 : G ≤ 16 := hGj 4 hq
        have u2 : N * (2 - 16) ≤ 2 * A := h2 4 hq
        clear hF hGj h2
        omega
      · clear hF hGj h2
        omega
      · clear hF hGj h2
        omega
    · show 4096 * C + (552960 * N2 + 4285440 - 7680 * A2) ≤ 1150976 + F
      have f1 : 737280 * N + 5713920 - 61440 * A ≤ F := hF 1 (by omega) (by decide)
      have f2 : 675840 * N + 5237760 - 30720 * A ≤ F := hF 2 (by omega) (by decide)
      have f3 : 614400 * N + 4761600 - 15360 * A ≤ F := hF 3 (by omega) (by decide)
      have g1 : G ≤ 1 := hGj 0 (by omega)
      have g2 : N * (2 - 1) ≤ 2 * A := h2 0 (by omega)
      rcases hC2 with ⟨hq, hc⟩ | ⟨hq, hc⟩ | hc | hc
      · have u1 : G ≤ 2 := hGj 1 hq
        have u2 : N * (2 - 2) ≤ 2 * A := h2 1 hq
        clear hF hGj h2
        omega
      · have u1 : G ≤ 16 := hGj 4 hq
        have u2 : N * (2 - 16) ≤ 2 * A := h2 4 hq
        clear hF hGj h2
        omega
      · clear hF hGj h2
        omega
      · clear hF hGj h2
        omega
    · show 4096 * C + (491520 * N2 + 3809280 - 3840 * A2) ≤ 1150976 + F
      have f2 : 675840 * N + 5237760 - 30720 * A ≤ F := hF 2 (by omega) (by decide)
      have f3 : 614400 * N + 4761600 - 15360 * A ≤ F := hF 3 (by omega) (by decide)
      have g1 : G ≤ 1 := hGj 0 (by omega)
      have g2 : N * (2 - 1) ≤ 2 * A := h2 0 (by omega)
      rcases hC2 with ⟨hq, hc⟩ | ⟨hq, hc⟩ | hc | hc
      · have u1 : G ≤ 2 := hGj 1 hq
        have u2 : N * (2 - 2) ≤ 2 * A := h2 1 hq
        clear hF hGj h2
        omega
      · have u1 : G ≤ 16 := hGj 4 hq
        have u2 : N * (2 - 16) ≤ 2 * A := h2 4 hq
        clear hF hGj h2
        omega
      · clear hF hGj h2
        omega
      · clear hF hGj h2
        omega
    · show 4096 * C + (430080 * N2 + 3333120 - 1920 * A2) ≤ 1150976 + F
      have f3 : 614400 * N + 4761600 - 15360 * A ≤ F := hF 3 (by omega) (by decide)
      have f4 : 552960 * N + 4285440 - 7680 * A ≤ F := hF 4 (by omega) (by decide)
      have g1 : G ≤ 1 := hGj 0 (by omega)
      have g2 : N * (2 - 1) ≤ 2 * A := h2 0 (by omega)
      rcases hC2 with ⟨hq, hc⟩ | ⟨hq, hc⟩ | hc | hc
      · have u1 : G ≤ 2 := hGj 1 hq
        have u2 : N * (2 - 2) ≤ 2 * A := h2 1 hq
        clear hF hGj h2
        omega
      · have u1 : G ≤ 16 := hGj 4 hq
        have u2 : N * (2 - 16) ≤ 2 * A := h2 4 hq
        clear hF hGj h2
        omega
      · clear hF hGj h2
        omega
      · clear hF hGj h2
        omega
    · show 4096 * C + (368640 * N2 + 2856960 - 960 * A2) ≤ 1150976 + F
      have f4 : 552960 * N + 4285440 - 7680 * A ≤ F := hF 4 (by omega) (by decide)
      have f5 : 491520 * N + 3809280 - 3840 * A ≤ F := hF 5 (by omega) (by decide)
      have g1 : G ≤ 1 := hGj 0 (by omega)
      have g2 : N * (2 - 1) ≤ 2 * A := h2 0 (by omega)
      rcases hC2 with ⟨hq, hc⟩ | ⟨hq, hc⟩ | hc | hc
      · have u1 : G ≤ 2 := hGj 1 hq
        have u2 : N * (2 - 2) ≤ 2 * A := h2 1 hq
        clear hF hGj h2
        omega
      · have u1 : G ≤ 16 := hGj 4 hq
        have u2 : N * (2 - 16) ≤ 2 * A := h2 4 hq
        clear hF hGj h2
        omega
      · clear hF hGj h2
        omega
      · clear hF hGj h2
        omega
    · show 4096 * C + (307200 * N2 + 2380800 - 480 * A2) ≤ 1150976 + F
      have f5 : 491520 * N + 3809280 - 3840 * A ≤ F := hF 5 (by omega) (by decide)
      have f6 : 430080 * N + 3333120 - 1920 * A ≤ F := hF 6 (by omega) (by decide)
      have g1 : G ≤ 1 := hGj 0 (by omega)
      have g2 : N * (2 - 1) ≤ 2 * A := h2 0 (by omega)
      rcases hC2 with ⟨hq, hc⟩ | ⟨hq, hc⟩ | hc | hc
      · have u1 : G ≤ 2 := hGj 1 hq
        have u2 : N * (2 - 2) ≤ 2 * A := h2 1 hq
        clear hF hGj h2
        omega
      · have u1 : G ≤ 16 := hGj 4 hq
        have u2 : N * (2 - 16) ≤ 2 * A := h2 4 hq
        clear hF hGj h2
        omega
      · clear hF hGj h2
        omega
      · clear hF hGj h2
        omega
    · show 4096 * C + (245760 * N2 + 1904640 - 240 * A2) ≤ 1150976 + F
      have f6 : 430080 * N + 3333120 - 1920 * A ≤ F := hF 6 (by omega) (by decide)
      have f7 : 368640 * N + 2856960 - 960 * A ≤ F := hF 7 (by omega) (by decide)
      have g1 : G ≤ 1 := hGj 0 (by omega)
      have g2 : N * (2 - 1) ≤ 2 * A := h2 0 (by omega)
      rcases hC2 with ⟨hq, hc⟩ | ⟨hq, hc⟩ | hc | hc
      · have u1 : G ≤ 2 := hGj 1 hq
        have u2 : N * (2 - 2) ≤ 2 * A := h2 1 hq
        clear hF hGj h2
        omega
      · have u1 : G ≤ 16 := hGj 4 hq
        have u2 : N * (2 - 16) ≤ 2 * A := h2 4 hq
        clear hF hGj h2
        omega
      · clear hF hGj h2
        omega
      · clear hF hGj h2
        omega
    · show 4096 * C + (184320 * N2 + 1428480 - 120 * A2) ≤ 1150976 + F
      have f8 : 307200 * N + 2380800 - 480 * A ≤ F := hF 8 (by omega) (by decide)
      have g1 : G ≤ 1 := hGj 0 (by omega)
      have g2 : N * (2 - 1) ≤ 2 * A := h2 0 (by omega)
      rcases hC2 with ⟨hq, hc⟩ | ⟨hq, hc⟩ | hc | hc
      · have u1 : G ≤ 2 := hGj 1 hq
        have u2 : N * (2 - 2) ≤ 2 * A := h2 1 hq
        clear hF hGj h2
        omega
      · have u1 : G ≤ 16 := hGj 4 hq
        have u2 : N * (2 - 16) ≤ 2 * A := h2 4 hq
        clear hF hGj h2
        omega
      · clear hF hGj h2
        omega
      · clear hF hGj h2
        omega
    · show 4096 * C + (122880 * N2 + 952320 - 60 * A2) ≤ 1150976 + F
      have f9 : 245760 * N + 1904640 - 240 * A ≤ F := hF 9 (by omega) (by decide)
      have g1 : G ≤ 1 := hGj 0 (by omega)
      have g2 : N * (2 - 1) ≤ 2 * A := h2 0 (by omega)
      rcases hC2 with ⟨hq, hc⟩ | ⟨hq, hc⟩ | hc | hc
      · have u1 : G ≤ 2 := hGj 1 hq
        have u2 : N * (2 - 2) ≤ 2 * A := h2 1 hq
        clear hF hGj h2
        omega
      · have u1 : G ≤ 16 := hGj 4 hq
        have u2 : N * (2 - 16) ≤ 2 * A := h2 4 hq
        clear hF hGj h2
        omega
      · clear hF hGj h2
        omega
      · clear hF hGj h2
        omega
    · show 4096 * C + (61440 * N2 + 476160 - 30 * A2) ≤ 1150976 + F
      have f10 : 184320 * N + 1428480 - 120 * A ≤ F := hF 10 (by omega) (by decide)
      have g1 : G ≤ 1 := hGj 0 (by omega)
      have g2 : N * (2 - 1) ≤ 2 * A := h2 0 (by omega)
      rcases hC2 with ⟨hq, hc⟩ | ⟨hq, hc⟩ | hc | hc
      · have u1 : G ≤ 2 := hGj 1 hq
        have u2 : N * (2 - 2) ≤ 2 * A := h2 1 hq
        clear hF hGj h2
        omega
      · have u1 : G ≤ 16 := hGj 4 hq
        have u2 : N * (2 - 16) ≤ 2 * A := h2 4 hq
        clear hF hGj h2
        omega
      · clear hF hGj h2
        omega
      · clear hF hGj h2
        omega
  ·
    have f1 : 737280 * N + 5713920 - 61440 * A ≤ F := hF 1 (by omega) (by decide)
    have g1 : G ≤ 1 := hGj 0 (by omega)
    have g2 : N * (2 - 1) ≤ 2 * A := h2 0 (by omega)
    rcases hC2 with ⟨hq, hc⟩ | ⟨hq, hc⟩ | hc | hc
    · have u1 : G ≤ 2 := hGj 1 hq
      have u2 : N * (2 - 2) ≤ 2 * A := h2 1 hq
      clear hF hGj h2
      omega
    · have u1 : G ≤ 16 := hGj 4 hq
      have u2 : N * (2 - 16) ≤ 2 * A := h2 4 hq
      clear hF hGj h2
      omega
    · clear hF hGj h2
      omega
    · clear hF hGj h2
      omega
theorem qs_x2 {g : Nat} {A N E z C F A2 N2 G : Int} (hF0 : 0 ≤ F) (hF : ∀ i : Nat, g ≤ i → i < 13 → qs_l i A N ≤ F) (hN : 1 ≤ N) (hN1 : N = 1 → 512 ≤ A) (hz : 0 ≤ z) (hE : 0 ≤ E) (h1 : A ≤ N * 4) (h3 : z * 4 ≤ 65536) (h4 : z * 4 ≤ 2 * E + G) (hC : C ≤ 529) (hm : (A2 = A + E ∧ N2 = N + 1) ∨ (3 ≤ N ∧ A + E - G ≤ 2 * A2 ∧ 2 * N2 ≤ N + 2)) (hg : g ≤ 1) (hG : 1 ≤ G ∧ G ≤ 2) (hGj : ∀ j : Nat, g ≤ j → G ≤ 2 ^ j) (h2 : ∀ j : Nat, g ≤ j → N * (4 - 2 ^ j) ≤ 2 * A) (hC2 : (g ≤ 1 ∧ C ≤ 8 * z + 35) ∨ (g ≤ 4 ∧ C ≤ 8 * z + 17) ∨ C ≤ 8 * z + -10 ∨ (g = 0 ∧ G = 1 ∧ 31 ≤ z ∧ C ≤ 8 * z + 161) ∨ (1 ≤ g ∧ 13 ≤ z ∧ C ≤ 8 * z + 152)) : (∀ j : Nat, g ≤ j → j < 13 → 4096 * C + qs_l j A2 N2 ≤ 1150976 + F) ∧ 4096 * C ≤ 1150976 + F := by
  constructor
  · intro j hj1 hj2
    have hjs : j = 0 ∨ j = 1 ∨ j = 2 ∨ j = 3 ∨ j = 4 ∨ j = 5 ∨ j = 6 ∨ j = 7 ∨ j = 8 ∨ j = 9 ∨ j = 10 ∨ j = 11 ∨ j = 12 := by omega
    rcases hjs with rfl | rfl | rfl | rfl | rfl | rfl | rfl | rfl | rfl | rfl | rfl | rfl | rfl
    · show 4096 * C + (798720 * N2 + 6190080 - 122880 * A2) ≤ 1150976 + F
      have f0 : 798720 * N + 6190080 - 122880 * A ≤ F := hF 0 (by omega) (by decide)
      have g1 : G ≤ 1 := hGj 0 (by omega)
      have g2 : N * (4 - 1) ≤ 2 * A := h2 0 (by omega)
      rcases hC2 with ⟨hq, hc⟩ | ⟨hq, hc⟩ | hc | hc
      · have u1 : G ≤ 2 := hGj 1 hq
        have u2 : N * (4 - 2) ≤ 2 * A := h2 1 hq
        clear hF hGj h2
        omega
      · have u1 : G ≤ 16 := hGj 4 hq
        have u2 : N * (4 - 16) ≤ 2 * A := h2 4 hq
        clear hF hGj h2
        omega
      · clear hF hGj h2
        omega
      · clear hF hGj h2
        omega
    · show 4096 * C + (737280 * N2 + 5713920 - 61440 * A2) ≤ 1150976 + F
      have f1 : 737280 * N + 5713920 - 61440 * A ≤ F := hF 1 (by omega) (by decide)
      have g1 : G ≤ 2 := hGj 1 (by omega)
      have g2 : N * (4 - 2) ≤ 2 * A := h2 1 (by omega)
      rcases hC2 with ⟨hq, hc⟩ | ⟨hq, hc⟩ | hc | hc
      · have u1 : G ≤ 2 := hGj 1 hq
        have u2 : N * (4 - 2) ≤ 2 * A := h2 1 hq
        clear hF hGj h2
        omega
      · have u1 : G ≤ 16 := hGj 4 hq
        have u2 : N * (4 - 16) ≤ 2 * A := h2 4 hq
        clear hF hGj h2
        omega
      · clear hF hGj h2
        omega
      · clear hF hGj h2
        omega
    · show 4096 * C + (675840 * N2 + 5237760 - 30720 * A2) ≤ 1150976 + F
      have f2 : 675840 * N + 5237760 - 30720 * A ≤ F := hF 2 (by omega) (by decide)
      have g1 : G ≤ 2 := hGj 1 (by omega)
      have g2 : N * (4 - 2) ≤ 2 * A := h2 1 (by omega)
      rcases hC2 with ⟨hq, hc⟩ | ⟨hq, hc⟩ | hc | hc
      · have u1 : G ≤ 2 := hGj 1 hq
        have u2 : N * (4 - 2) ≤ 2 * A := h2 1 hq
        clear hF hGj h2
        omega
      · have u1 : G ≤ 16 := hGj 4 hq
        have u2 : N * (4 - 16) ≤ 2 * A := h2 4 hq
        clear hF hGj h2
        omega
      · clear hF hGj h2
        omega
      · clear hF hGj h2
        omega
    · show 4096 * C + (614400 * N2 + 4761600 - 15360 * A2) ≤ 1150976 + F
      have f2 : 675840 * N + 5237760 - 30720 * A ≤ F := hF 2 (by omega) (by decide)
      have f3 : 614400 * N + 4761600 - 15360 * A ≤ F := hF 3 (by omega) (by decide)
      have g1 : G ≤ 2 := hGj 1 (by omega)
      have g2 : N * (4 - 2) ≤ 2 * A := h2 1 (by omega)
      rcases hC2 with ⟨hq, hc⟩ | ⟨hq, hc⟩ | hc | hc
      · have u1 : G ≤ 2 := hGj 1 hq
        have u2 : N * (4 - 2) ≤ 2 * A := h2 1 hq
        clear hF hGj h2
        omega
      · have u1 : G ≤ 16 := hGj 4 hq
        have u2 : N * (4 - 16) ≤ 2 * A := h2 4 hq
        clear hF hGj h2
        omega
      · clear hF hGj h2
        omega
      · clear hF hGj h2
        omega
    · show 4096 * C + (552960 * N2 + 4285440 - 7680 * A2) ≤ 1150976 + F
      have f2 : 675840 * N + 5237760 - 30720 * A ≤ F := hF 2 (by omega) (by decide)
      have f3 : 614400 * N + 4761600 - 15360 * A ≤ F := hF 3 (by omega) (by decide)
      have g1 : G ≤ 2 := hGj 1 (by omega)
      have g2 : N * (4 - 2) ≤ 2 * A := h2 1 (by omega)
      rcases hC2 with ⟨hq, hc⟩ | ⟨hq, hc⟩ | hc | hc
      · have u1 : G ≤ 2 := hGj 1 hq
        have u2 : N * (4 - 2) ≤ 2 * A := h2 1 hq
        clear hF hGj h2
        omega
      · have u1 : G ≤ 16 := hGj 4 hq
        have u2 : N * (4 - 16) ≤ 2 * A := h2 4 hq
        clear hF hGj h2
        omega
      · clear hF hGj h2
        omega
      · clear hF hGj h2
        omega
    · show 4096 * C + (491520 * N2 + 3809280 - 3840 * A2) ≤ 1150976 + F
      have f2 : 675840 * N + 5237760 - 30720 * A ≤ F := hF 2 (by omega) (by decide)
      have f3 : 614400 * N + 4761600 - 15360 * A ≤ F := hF 3 (by omega) (by decide)
      have f4 : 552960 * N + 4285440 - 7680 * A ≤ F := hF 4 (by omega) (by decide)
      have g1 : G ≤ 2 := hGj 1 (by omega)
      have g2 : N * (4 - 2) ≤ 2 * A := h2 1 (by omega)
      rcases hC2 with ⟨hq, hc⟩ | ⟨hq, hc⟩ | hc | hc
      · have u1 : G ≤ 2 := hGj 1 hq
        have u2 : N * (4 - 2) ≤ 2 * A := h2 1 hq
        clear hF hGj h2
        omega
      · have u1 : G ≤ 16 := hGj 4 hq
        have u2 : N * (4 - 16) ≤ 2 * A := h2 4 hq
        clear hF hGj h2
        omega
      · clear hF hGj h2
        omega
      · clear hF hGj h2
        omega
    · show 4096 * C + (430080 * N2 + 3333120 - 1920 * A2) ≤ 1150976 + F
      have f3 : 614400 * N + 4761600 - 15360 * A ≤ F := hF 3 (by omega) (by decide)
      have f4 : 552960 * N + 4285440 - 7680 * A ≤ F := hF 4 (by omega) (by decide)
      have g1 : G ≤ 2 := hGj 1 (by omega)
      have g2 : N * (4 - 2) ≤ 2 * A := h2 1 (by omega)
      rcases hC2 with ⟨hq, hc⟩ | ⟨hq, hc⟩ | hc | hc
      · have u1 : G ≤ 2 := hGj 1 hq
        have u2 : N * (4 - 2) ≤ 2 * A := h2 1 hq
        clear hF hGj h2
        omega
      · have u1 : G ≤ 16 := hGj 4 hq
        have u2 : N * (4 - 16) ≤ 2 * A := h2 4 hq
        clear hF hGj h2
        omega
      · clear hF hGj h2
        omega
      · clear hF hGj h2
        omega
    · show 4096 * C + (368640 * N2 + 2856960 - 960 * A2) ≤ 1150976 + F
      have f4 : 552960 * N + 4285440 - 7680 * A ≤ F := hF 4 (by omega) (by decide)
      have f5 : 491520 * N + 3809280 - 3840 * A ≤ F := hF 5 (by omega) (by decide)
      have g1 : G ≤ 2 := hGj 1 (by omega)
      have g2 : N * (4 - 2) ≤ 2 * A := h2 1 (by omega)
      rcases hC2 with ⟨hq, hc⟩ | ⟨hq, hc⟩ | hc | hc
      · have u1 : G ≤ 2 := hGj 1 hq
        have u2 : N * (4 - 2) ≤ 2 * A := h2 1 hq
        clear hF hGj h2
        omega
      · have u1 : G ≤ 16 := hGj 4 hq
        have u2 : N * (4 - 16) ≤ 2 * A := h2 4 hq
        clear hF hGj h2
        omega
      · clear hF hGj h2
        omega
      · clear hF hGj h2
        omega
    · show 4096 * C + (307200 * N2 + 2380800 - 480 * A2) ≤ 1150976 + F
      have f5 : 491520 * N + 3809280 - 3840 * A ≤ F := hF 5 (by omega) (by decide)
      have f6 : 430080 * N + 3333120 - 1920 * A ≤ F := hF 6 (by omega) (by decide)
      have g1 : G ≤ 2 := hGj 1 (by omega)
      have g2 : N * (4 - 2) ≤ 2 * A := h2 1 (by omega)
      rcases hC2 with ⟨hq, hc⟩ | ⟨hq, hc⟩ | hc | hc
      · have u1 : G ≤ 2 := hGj 1 hq
        have u2 : N * (4 - 2) ≤ 2 * A := h2 1 hq
        clear hF hGj h2
        omega
      · have u1 : G ≤ 16 := hGj 4 hq
        have u2 : N * (4 - 16) ≤ 2 * A := h2 4 hq
        clear hF hGj h2
        omega
      · clear hF hGj h2
        omega
      · clear hF hGj h2
        omega
    · show 4096 * C + (245760 * N2 + 1904640 - 240 * A2) ≤ 1150976 + F
      have f6 : 430080 * N + 3333120 - 1920 * A ≤ F := hF 6 (by omega) (by decide)
      have f7 : 368640 * N + 2856960 - 960 * A ≤ F := hF 7 (by omega) (by decide)
      have g1 : G ≤ 2 := hGj 1 (by omega)
      have g2 : N * (4 - 2) ≤ 2 * A := h2 1 (by omega)
      rcases hC2 with ⟨hq, hc⟩ | ⟨hq, hc⟩ | hc | hc
      · have u1 : G ≤ 2 := hGj 1 hq
        have u2 : N * (4 - 2) ≤ 2 * A := h2 1 hq
        clear hF hGj h2
        omega
      · have u1 : G ≤ 16 := hGj 4 hq
        have u2 : N * (4 - 16) ≤ 2 * A := h2 4 hq
        clear hF hGj h2
        omega
      · clear hF hGj h2
        omega
      · clear hF hGj h2
        omega
    · show 4096 * C + (184320 * N2 + 1428480 - 120 * A2) ≤ 1150976 + F
      have f8 : 307200 * N + 2380800 - 480 * A ≤ F := hF 8 (by omega) (by decide)
      have g1 : G ≤ 2 := hGj 1 (by omega)
      have g2 : N * (4 - 2) ≤ 2 * A := h2 1 (by omega)
      rcases hC2 with ⟨hq, hc⟩ | ⟨hq, hc⟩ | hc | hc
      · have u1 : G ≤ 2 := hGj 1 hq
        have u2 : N * (4 - 2) ≤ 2 * A := h2 1 hq
        clear hF hGj h2
        omega
      · have u1 : G ≤ 16 := hGj 4 hq
        have u2 : N * (4 - 16) ≤ 2 * A := h2 4 hq
        clear hF hGj h2
        omega
      · clear hF hGj h2
        omega
      · clear hF hGj h2
        omega
    · show 4096 * C + (122880 * N2 + 952320 - 60 * A2) ≤ 1150976 + F
      have f9 : 245760 * N + 1904640 - 240 * A ≤ F := hF 9 (by omega) (by decide)
      have g1 : G ≤ 2 := hGj 1 (by omega)
      have g2 : N * (4 - 2) ≤ 2 * A := h2 1 (by omega)
      rcases hC2 with ⟨hq, hc⟩ | ⟨hq, hc⟩ | hc | hc
      · have u1 : G ≤ 2 := hGj 1 hq
        have u2 : N * (4 - 2) ≤ 2 * A := h2 1 hq
        clear hF hGj h2
        omega
      · have u1 : G ≤ 16 := hGj 4 hq
        have u2 : N * (4 - 16) ≤ 2 * A := h2 4 hq
        clear hF hGj h2
        omega
      · clear hF hGj h2
        omega
      · clear hF hGj h2
        omega
    · show 4096 * C + (61440 * N2 + 476160 - 30 * A2) ≤ 1150976 + F
      have f10 : 184320 * N + 1428480 - 120 * A ≤ F := hF 10 (by omega) (by decide)
      have g1 : G ≤ 2 := hGj 1 (by omega)
      have g2 : N * (4 - 2) ≤ 2 * A := h2 1 (by omega)
      rcases hC2 with ⟨hq, hc⟩ | ⟨hq, hc⟩ | hc | hc
      · have u1 : G ≤ 2 := hGj 1 hq
        have u2 : N * (4 - 2) ≤ 2 * A := h2 1 hq
        clear hF hGj h2
        omega
      · have u1 : G ≤ 16 := hGj 4 hq
        have u2 : N * (4 - 16) ≤ 2 * A := h2 4 hq
        clear hF hGj h2
        omega
      · clear hF hGj h2
        omega
      · clear hF hGj h2
        omega
  ·
    have f2 : 675840 * N + 5237760 - 30720 * A ≤ F := hF 2 (by omega) (by decide)
    have g1 : G ≤ 2 := hGj 1 (by omega)
    have g2 : N * (4 - 2) ≤ 2 * A := h2 1 (by omega)
    rcases hC2 with ⟨hq, hc⟩ | ⟨hq, hc⟩ | hc | hc
    · have u1 : G ≤ 2 := hGj 1 hq
      have u2 : N * (4 - 2) ≤ 2 * A := h2 1 hq
      clear hF hGj h2
      omega
    · have u1 : G ≤ 16 := hGj 4 hq
      have u2 : N * (4 - 16) ≤ 2 * A := h2 4 hq
      clear hF hGj h2
      omega
    · clear hF hGj h2
      omega
    · clear hF hGj h2
      omega
theorem qs_x3 {g : Nat} {A N E z C F A2 N2 G : Int} (hF0 : 0 ≤ F) (hF : ∀ i : Nat, g ≤ i → i < 13 → qs_l i A N ≤ F) (hN : 1 ≤ N) (hN1 : N = 1 → 512 ≤ A) (hz : 0 ≤ z) (hE : 0 ≤ E) (h1 : A ≤ N * 8) (h3 : z * 8 ≤ 65536) (h4 : z * 8 ≤ 2 * E + G) (hC : C ≤ 529) (hm : (A2 = A + E ∧ N2 = N + 1) ∨ (3 ≤ N ∧ A + E - G ≤ 2 * A2 ∧ 2 * N2 ≤ N + 2)) (hg : g ≤ 2) (hG : 1 ≤ G ∧ G ≤ 4) (hGj : ∀ j : Nat, g ≤ j → G ≤ 2 ^ j) (h2 : ∀ j : Nat, g ≤ j → N * (8 - 2 ^ j) ≤ 2 * A) (hC2 : (g ≤ 1 ∧ C ≤ 8 * z + 44) ∨ (g ≤ 4 ∧ C ≤ 8 * z + 26) ∨ C ≤ 8 * z + -1 ∨ (g = 0 ∧ G = 1 ∧ 31 ≤ z ∧ C ≤ 8 * z + 161) ∨ (1 ≤ g ∧ 13 ≤ z ∧ C ≤ 8 * z + 152)) : (∀ j : Nat, g ≤ j → j < 13 → 4096 * C + qs_l j A2 N2 ≤ 1150976 + F) ∧ 4096 * C ≤ 1150976 + F := by
  constructor
  · intro j hj1 hj2
    have hjs : j = 0 ∨ j = 1 ∨ j = 2 ∨ j = 3 ∨ j = 4 ∨ j = 5 ∨ j = 6 ∨ j = 7 ∨ j = 8 ∨ j = 9 ∨ j = 10 ∨ j = 11 ∨ j = 12 := by omega
    rcases hjs with rfl | rfl | rfl | rfl | rfl | rfl | rfl | rfl | rfl | rfl | rfl | rfl | rfl
    · show 4096 * C + (798720 * N2 + 6190080 - 122880 * A2) ≤ 1150976 + F
      have f0 : 798720 * N + 6190080 - 122880 * A ≤ F := hF 0 (by omega) (by decide)
      have f1 : 737280 * N + 5713920 - 61440 * A ≤ F := hF 1 (by omega) (by decide)
      have g1 : G ≤ 1 := hGj 0 (by omega)
      have g2 : N * (8 - 1) ≤ 2 * A := h2 0 (by omega)
      rcases hC2 with ⟨hq, hc⟩ | ⟨hq, hc⟩ | hc | hc
      · have u1 : G ≤ 2 := hGj 1 hq
        have u2 : N * (8 - 2) ≤ 2 * A := h2 1 hq
        clear hF hGj h2
        omega
      · have u1 : G ≤ 16 := hGj 4 hq
        have u2 : N * (8 - 16) ≤ 2 * A := h2 4 hq
        clear hF hGj h2
        omega
      · clear hF hGj h2
        omega
      · clear hF hGj h2
        omega
    · show 4096 * C + (737280 * N2 + 5713920 - 61440 * A2) ≤ 1150976 + F
      have f1 : 737280 * N + 5713920 - 61440 * A ≤ F := hF 1 (by omega) (by decide)
      have g1 : G ≤ 2 := hGj 1 (by omega)
      have g2 : N * (8 - 2) ≤ 2 * A := h2 1 (by omega)
      rcases hC2 with ⟨hq, hc⟩ | ⟨hq, hc⟩ | hc | hc
      · have u1 : G ≤ 2 := hGj 1 hq
        have u2 : N * (8 - 2) ≤ 2 * A := h2 1 hq
        clear hF hGj h2
        omega
      · have u1 : G ≤ 16 := hGj 4 hq
        have u2 : N * (8 - 16) ≤ 2 * A := h2 4 hq
        clear hF hGj h2
        omega
      · clear hF hGj h2
        omega
      · clear hF hGj h2
        omega
    · show 4096 * C + (675840 * N2 + 5237760 - 30720 * A2) ≤ 1150976 + F
      have f2 : 675840 * N + 5237760 - 30720 * A ≤ F := hF 2 (by omega) (by decide)
      have g1 : G ≤ 4 := hGj 2 (by omega)
      have g2 : N * (8 - 4) ≤ 2 * A := h2 2 (by omega)
      rcases hC2 with ⟨hq, hc⟩ | ⟨hq, hc⟩ | hc | hc
      · have u1 : G ≤ 2 := hGj 1 hq
        have u2 : N * (8 - 2) ≤ 2 * A := h2 1 hq
        clear hF hGj h2
        omega
      · have u1 : G ≤ 16 := hGj 4 hq
        have u2 : N * (8 - 16) ≤ 2 * A := h2 4 hq
        clear hF hGj h2
        omega
      · clear hF hGj h2
        omega
      · clear hF hGj h2
        omega
    · show 4096 * C + (614400 * N2 + 4761600 - 15360 * A2) ≤ 1150976 + F
      have f3 : 614400 * N + 4761600 - 15360 * A ≤ F := hF 3 (by omega) (by decide)
      have g1 : G ≤ 4 := hGj 2 (by omega)
      have g2 : N * (8 - 4) ≤ 2 * A := h2 2 (by omega)
      rcases hC2 with ⟨hq, hc⟩ | ⟨hq, hc⟩ | hc | hc
      · have u1 : G ≤ 2 := hGj 1 hq
        have u2 : N * (8 - 2) ≤ 2 * A := h2 1 hq
        clear hF hGj h2
        omega
      · have u1 : G ≤ 16 := hGj 4 hq
        have u2 : N * (8 - 16) ≤ 2 * A := h2 4 hq
        clear hF hGj h2
        omega
      · clear hF hGj h2
        omega
      · clear hF hGj h2
        omega
    · show 4096 * C + (552960 * N2 + 4285440 - 7680 * A2) ≤ 1150976 + F
      have f3 : 614400 * N + 4761600 - 15360 * A ≤ F := hF 3 (by omega) (by decide)
      have f4 : 552960 * N + 4285440 - 7680 * A ≤ F := hF 4 (by omega) (by decide)
      have g1 : G ≤ 4 := hGj 2 (by omega)
      have g2 : N * (8 - 4) ≤ 2 * A := h2 2 (by omega)
      rcases hC2 with ⟨hq, hc⟩ | ⟨hq, hc⟩ | hc | hc
      · have u1 : G ≤ 2 := hGj 1 hq
        have u2 : N * (8 - 2) ≤ 2 * A := h2 1 hq
        clear hF hGj h2
        omega
      · have u1 : G ≤ 16 := hGj 4 hq
        have u2 : N * (8 - 16) ≤ 2 * A := h2 4 hq
        clear hF hGj h2
        omega
      · clear hF hGj h2
        omega
      · clear hF hGj h2
        omega
    · show 4096 * C + (491520 * N2 + 3809280 - 3840 * A2) ≤ 1150976 + F
      have f3 : 614400 * N + 4761600 - 15360 * A ≤ F := hF 3 (by omega) (by decide)
      have f4 : 552960 * N + 4285440 - 7680 * A ≤ F := hF 4 (by omega) (by decide)
      have g1 : G ≤ 4 := hGj 2 (by omega)
      have g2 : N * (8 - 4) ≤ 2 * A := h2 2 (by omega)
      rcases hC2 with ⟨hq, hc⟩ | ⟨hq, hc⟩ | hc | hc
      · have u1 : G ≤ 2 := hGj 1 hq
        have u2 : N * (8 - 2) ≤ 2 * A := h2 1 hq
        clear hF hGj h2
        omega
      · have u1 : G ≤ 16 := hGj 4 hq
        have u2 : N * (8 - 16) ≤ 2 * A := h2 4 hq
        clear hF hGj h2
        omega
      · clear hF hGj h2
        omega
      · clear hF hGj h2
        omega
    · show 4096 * C + (430080 * N2 + 3333120 - 1920 * A2) ≤ 1150976 + F
      have f4 : 552960 * N + 4285440 - 7680 * A ≤ F := hF 4 (by omega) (by decide)
      have f5 : 491520 * N + 3809280 - 3840 * A ≤ F := hF 5 (by omega) (by decide)
      have g1 : G ≤ 4 := hGj 2 (by omega)
      have g2 : N * (8 - 4) ≤ 2 * A := h2 2 (by omega)
      rcases hC2 with ⟨hq, hc⟩ | ⟨hq, hc⟩ | hc | hc
      · have u1 : G ≤ 2 := hGj 1 hq
        have u2 : N * (8 - 2) ≤ 2 * A := h2 1 hq
        clear hF hGj h2
        omega
      · have u1 : G ≤ 16 := hGj 4 hq
        have u2 : N * (8 - 16) ≤ 2 * A := h2 4 hq
        clear hF hGj h2
        omega
      · clear hF hGj h2
        omega
      · clear hF hGj h2
        omega
    · show 4096 * C + (368640 * N2 + 2856960 - 960 * A2) ≤ 1150976 + F
      have f4 : 552960 * N + 4285440 - 7680 * A ≤ F := hF 4 (by omega) (by decide)
      have f5 : 491520 * N + 3809280 - 3840 * A ≤ F := hF 5 (by omega) (by decide)
      have g1 : G ≤ 4 := hGj 2 (by omega)
      have g2 : N * (8 - 4) ≤ 2 * A := h2 2 (by omega)
      rcases hC2 with ⟨hq, hc⟩ | ⟨hq, hc⟩ | hc | hc
      · have u1 : G ≤ 2 := hGj 1 hq
        have u2 : N * (8 - 2) ≤ 2 * A := h2 1 hq
        clear hF hGj h2
        omega
      · have u1 : G ≤ 16 := hGj 4 hq
        have u2 : N * (8 - 16) ≤ 2 * A := h2 4 hq
        clear hF hGj h2
        omega
      · clear hF hGj h2
        omega
      · clear hF hGj h2
        omega
    · show 4096 * C + (307200 * N2 + 2380800 - 480 * A2) ≤ 1150976 + F
      have f5 : 491520 * N + 3809280 - 3840 * A ≤ F := hF 5 (by omega) (by decide)
      have f6 : 430080 * N + 3333120 - 1920 * A ≤ F := hF 6 (by omega) (by decide)
      have g1 : G ≤ 4 := hGj 2 (by omega)
      have g2 : N * (8 - 4) ≤ 2 * A := h2 2 (by omega)
      rcases hC2 with ⟨hq, hc⟩ | ⟨hq, hc⟩ | hc | hc
      · have u1 : G ≤ 2 := hGj 1 hq
        have u2 : N * (8 - 2) ≤ 2 * A := h2 1 hq
        clear hF hGj h2
        omega
      · have u1 : G ≤ 16 := hGj 4 hq
        have u2 : N * (8 - 16) ≤ 2 * A := h2 4 hq
        clear hF hGj h2
        omega
      · clear hF hGj h2
        omega
      · clear hF hGj h2
        omega
    · show 4096 * C + (245760 * N2 + 1904640 - 240 * A2) ≤ 1150976 + F
      have f6 : 430080 * N + 3333120 - 1920 * A ≤ F := hF 6 (by omega) (by decide)
      have f7 : 368640 * N + 2856960 - 960 * A ≤ F := hF 7 (by omega) (by decide)
      have g1 : G ≤ 4 := hGj 2 (by omega)
      have g2 : N * (8 - 4) ≤ 2 * A := h2 2 (by omega)
      rcases hC2 with ⟨hq, hc⟩ | ⟨hq, hc⟩ | hc | hc
      · have u1 : G ≤ 2 := hGj 1 hq
        have u2 : N * (8 - 2) ≤ 2 * A := h2 1 hq
        clear hF hGj h2
        omega
      · have u1 : G ≤ 16 := hGj 4 hq
        have u2 : N * (8 - 16) ≤ 2 * A := h2 4 hq
        clear hF hGj h2
        omega
      · clear hF hGj h2
        omega
      · clear hF hGj h2
        omega
    · show 4096 * C + (184320 * N2 + 1428480 - 120 * A2) ≤ 1150976 + F
      have f8 : 307200 * N + 2380800 - 480 * A ≤ F := hF 8 (by omega) (by decide)
      have g1 : G ≤ 4 := hGj 2 (by omega)
      have g2 : N * (8 - 4) ≤ 2 * A := h2 2 (by omega)
      rcases hC2 with ⟨hq, hc⟩ | ⟨hq, hc⟩ | hc | hc
      · have u1 : G ≤ 2 := hGj 1 hq
        have u2 : N * (8 - 2) ≤ 2 * A := h2 1 hq
        clear hF hGj h2
        omega
      · have u1 : G ≤ 16 := hGj 4 hq
        have u2 : N * (8 - 16) ≤ 2 * A := h2 4 hq
        clear hF hGj h2
        omega
      · clear hF hGj h2
        omega
      · clear hF hGj h2
        omega
    · show 4096 * C + (122880 * N2 + 952320 - 60 * A2) ≤ 1150976 + F
      have f9 : 245760 * N + 1904640 - 240 * A ≤ F := hF 9 (by omega) (by decide)
      have g1 : G ≤ 4 := hGj 2 (by omega)
      have g2 : N * (8 - 4) ≤ 2 * A := h2 2 (by omega)
      rcases hC2 with ⟨hq, hc⟩ | ⟨hq, hc⟩ | hc | hc
      · have u1 : G ≤ 2 := hGj 1 hq
        have u2 : N * (8 - 2) ≤ 2 * A := h2 1 hq
        clear hF hGj h2
        omega
      · have u1 : G ≤ 16 := hGj 4 hq
        have u2 : N * (8 - 16) ≤ 2 * A := h2 4 hq
        clear hF hGj h2
        omega
      · clear hF hGj h2
        omega
      · clear hF hGj h2
        omega
    · show 4096 * C + (61440 * N2 + 476160 - 30 * A2) ≤ 1150976 + F
      have f10 : 184320 * N + 1428480 - 120 * A ≤ F := hF 10 (by omega) (by decide)
      have g1 : G ≤ 4 := hGj 2 (by omega)
      have g2 : N * (8 - 4) ≤ 2 * A := h2 2 (by omega)
      rcases hC2 with ⟨hq, hc⟩ | ⟨hq, hc⟩ | hc | hc
      · have u1 : G ≤ 2 := hGj 1 hq
        have u2 : N * (8 - 2) ≤ 2 * A := h2 1 hq
        clear hF hGj h2
        omega
      · have u1 : G ≤ 16 := hGj 4 hq
        have u2 : N * (8 - 16) ≤ 2 * A := h2 4 hq
        clear hF hGj h2
        omega
      · clear hF hGj h2
        omega
      · clear hF hGj h2
        omega
  ·
    have f3 : 614400 * N + 4761600 - 15360 * A ≤ F := hF 3 (by omega) (by decide)
    have g1 : G ≤ 4 := hGj 2 (by omega)
    have g2 : N * (8 - 4) ≤ 2 * A := h2 2 (by omega)
    rcases hC2 with ⟨hq, hc⟩ | ⟨hq, hc⟩ | hc | hc
    · have u1 : G ≤ 2 := hGj 1 hq
      have u2 : N * (8 - 2) ≤ 2 * A := h2 1 hq
      clear hF hGj h2
      omega
    · have u1 : G ≤ 16 := hGj 4 hq
      have u2 : N * (8 - 16) ≤ 2 * A := h2 4 hq
      clear hF hGj h2
      omega
    · clear hF hGj h2
      omega
    · clear hF hGj h2
      omega
theorem qs_x4 {g : Nat} {A N E z C F A2 N2 G : Int} (hF0 : 0 ≤ F) (hF : ∀ i : Nat, g ≤ i → i < 13 → qs_l i A N ≤ F) (hN : 1 ≤ N) (hN1 : N = 1 → 512 ≤ A) (hz : 0 ≤ z) (hE : 0 ≤ E) (h1 : A ≤ N * 16) (h3 : z * 16 ≤ 65536) (h4 : z * 16 ≤ 2 * E + G) (hC : C ≤ 529) (hm : (A2 = A + E ∧ N2 = N + 1) ∨ (3 ≤ N ∧ A + E - G ≤ 2 * A2 ∧ 2 * N2 ≤ N + 2)) (hg : g ≤ 3) (hG : 1 ≤ G ∧ G ≤ 8) (hGj : ∀ j : Nat, g ≤ j → G ≤ 2 ^ j) (h2 : ∀ j : Nat, g ≤ j → N * (16 - 2 ^ j) ≤ 2 * A) (hC2 : (g ≤ 1 ∧ C ≤ 8 * z + 53) ∨ (g ≤ 4 ∧ C ≤ 8 * z + 35) ∨ C ≤ 8 * z + 8 ∨ (g = 0 ∧ G = 1 ∧ 31 ≤ z ∧ C ≤ 8 * z + 161) ∨ (1 ≤ g ∧ 13 ≤ z ∧ C ≤ 8 * z + 152)) : (∀ j : Nat, g ≤ j → j < 13 → 4096 * C + qs_l j A2 N2 ≤ 1150976 + F) ∧ 4096 * C ≤ 1150976 + F := by
  constructor
  · intro j hj1 hj2
    have hjs : j = 0 ∨ j = 1 ∨ j = 2 ∨ j = 3 ∨ j = 4 ∨ j = 5 ∨ j = 6 ∨ j = 7 ∨ j = 8 ∨ j = 9 ∨ j = 10 ∨ j = 11 ∨ j = 12 := by omega
    rcases hjs with rfl | rfl | rfl | rfl | rfl | rfl | rfl | rfl | rfl | rfl | rfl | rfl | rfl
    · show 4096 * C + (798720 * N2 + 6190080 - 122880 * A2) ≤ 1150976 + F
      have f0 : 798720 * N + 6190080 - 122880 * A ≤ F := hF 0 (by omega) (by decide)
      have f1 : 737280 * N + 5713920 - 61440 * A ≤ F := hF 1 (by omega) (by decide)
      have g1 : G ≤ 1 := hGj 0 (by omega)
      have g2 : N * (16 - 1) ≤ 2 * A := h2 0 (by omega)
      rcases hC2 with ⟨hq, hc⟩ | ⟨hq, hc⟩ | hc | hc
      · have u1 : G ≤ 2 := hGj 1 hq
        have u2 : N * (16 - 2) ≤ 2 * A := h2 1 hq
        clear hF hGj h2
        omega
      · have u1 : G ≤ 16 := hGj 4 hq
        have u2 : N * (16 - 16) ≤ 2 * A := h2 4 hq
        clear hF hGj h2
        omega
      · clear hF hGj h2
        omega
      · clear hF hGj h2
        omega
    · show 4096 * C + (737280 * N2 + 5713920 - 61440 * A2) ≤ 1150976 + F
      have f1 : 737280 * N + 5713920 - 61440 * A ≤ F := hF 1 (by omega) (by decide)
      have f2 : 675840 * N + 5237760 - 30720 * A ≤ F := hF 2 (by omega) (by decide)
      have g1 : G ≤ 2 := hGj 1 (by omega)
      have g2 : N * (16 - 2) ≤ 2 * A := h2 1 (by omega)
      rcases hC2 with ⟨hq, hc⟩ | ⟨hq, hc⟩ | hc | hc
      · have u1 : G ≤ 2 := hGj 1 hq
        have u2 : N * (16 - 2) ≤ 2 * A := h2 1 hq
        clear hF hGj h2
        omega
      · have u1 : G ≤ 16 := hGj 4 hq
        have u2 : N * (16 - 16) ≤ 2 * A := h2 4 hq
        clear hF hGj h2
        omega
      · clear hF hGj h2
        omega
      · clear hF hGj h2
        omega
    · show 4096 * C + (675840 * N2 + 5237760 - 30720 * A2) ≤ 1150976 + F
      have f2 : 675840 * N + 5237760 - 30720 * A ≤ F := hF 2 (by omega) (by decide)
      have g1 : G ≤ 4 := hGj 2 (by omega)
      have g2 : N * (16 - 4) ≤ 2 * A := h2 2 (by omega)
      rcases hC2 with ⟨hq, hc⟩ | ⟨hq, hc⟩ | hc | hc
      · have u1 : G ≤ 2 := hGj 1 hq
        have u2 : N * (16 - 2) ≤ 2 * A := h2 1 hq
        clear hF hGj h2
        omega
      · have u1 : G ≤ 16 := hGj 4 hq
        have u2 : N * (16 - 16) ≤ 2 * A := h2 4 hq
        clear hF hGj h2
        omega
      · clear hF hGj h2
        omega
      · clear hF hGj h2
        omega
    · show 4096 * C + (614400 * N2 + 4761600 - 15360 * A2) ≤ 1150976 + F
      have f3 : 614400 * N + 4761600 - 15360 * A ≤ F := hF 3 (by omega) (by decide)
      have g1 : G ≤ 8 := hGj 3 (by omega)
      have g2 : N * (16 - 8) ≤ 2 * A := h2 3 (by omega)
      rcases hC2 with ⟨hq, hc⟩ | ⟨hq, hc⟩ | hc | hc
      · have u1 : G ≤ 2 := hGj 1 hq
        have u2 : N * (16 - 2) ≤ 2 * A := h2 1 hq
        clear hF hGj h2
        omega
      · have u1 : G ≤ 16 := hGj 4 hq
        have u2 : N * (16 - 16) ≤ 2 * A := h2 4 hq
        clear hF hGj h2
        omega
      · clear hF hGj h2
        omega
      · clear hF hGj h2
        omega
    · show 4096 * C + (552960 * N2 + 4285440 - 7680 * A2) ≤ 1150976 + F
      have f4 : 552960 * N + 4285440 - 7680 * A ≤ F := hF 4 (by omega) (by decide)
      have g1 : G ≤ 8 := hGj 3 (by omega)
      have g2 : N * (16 - 8) ≤ 2 * A := h2 3 (by omega)
      rcases hC2 with ⟨hq, hc⟩ | ⟨hq, hc⟩ | hc | hc
      · have u1 : G ≤ 2 := hGj 1 hq
        have u2 : N * (16 - 2) ≤ 2 * A := h2 1 hq
        clear hF hGj h2
        omega
      · have u1 : G ≤ 16 := hGj 4 hq
        have u2 : N * (16 - 16) ≤ 2 * A := h2 4 hq
        clear hF hGj h2
        omega
      · clear hF hGj h2
        omega
      · clear hF hGj h2
        omega
    · show 4096 * C + (491520 * N2 + 3809280 - 3840 * A2) ≤ 1150976 + F
      have f4 : 552960 * N + 4285440 - 7680 * A ≤ F := hF 4 (by omega) (by decide)
      have f5 : 491520 * N + 3809280 - 3840 * A ≤ F := hF 5 (by omega) (by decide)
      have g1 : G ≤ 8 := hGj 3 (by omega)
      have g2 : N * (16 - 8) ≤ 2 * A := h2 3 (by omega)
      rcases hC2 with ⟨hq, hc⟩ | ⟨hq, hc⟩ | hc | hc
      · have u1 : G ≤ 2 := hGj 1 hq
        have u2 : N * (16 - 2) ≤ 2 * A := h2 1 hq
        clear hF hGj h2
        omega
      · have u1 : G ≤ 16 := hGj 4 hq
        have u2 : N * (16 - 16) ≤ 2 * A := h2 4 hq
        clear hF hGj h2
        omega
      · clear hF hGj h2
        omega
      · clear hF hGj h2
        omega
    · show 4096 * C + (430080 * N2 + 3333120 - 1920 * A2) ≤ 1150976 + F
      have f4 : 552960 * N + 4285440 - 7680 * A ≤ F := hF 4 (by omega) (by decide)
      have f5 : 491520 * N + 3809280 - 3840 * A ≤ F := hF 5 (by omega) (by decide)
      have g1 : G ≤ 8 := hGj 3 (by omega)
      have g2 : N * (16 - 8) ≤ 2 * A := h2 3 (by omega)
      rcases hC2 with ⟨hq, hc⟩ | ⟨hq, hc⟩ | hc | hc
      · have u1 : G ≤ 2 := hGj 1 hq
        have u2 : N * (16 - 2) ≤ 2 * A := h2 1 hq
        clear hF hGj h2
        omega
      · have u1 : G ≤ 16 := hGj 4 hq
        have u2 : N * (16 - 16) ≤ 2 * A := h2 4 hq
        clear hF hGj h2
        omega
      · clear hF hGj h2
        omega
      · clear hF hGj h2
        omega
    · show 4096 * C + (368640 * N2 + 2856960 - 960 * A2) ≤ 1150976 + F
      have f5 : 491520 * N + 3809280 - 3840 * A ≤ F := hF 5 (by omega) (by decide)
      have f6 : 430080 * N + 3333120 - 1920 * A ≤ F := hF 6 (by omega) (by decide)
      have g1 : G ≤ 8 := hGj 3 (by omega)
      have g2 : N * (16 - 8) ≤ 2 * A := h2 3 (by omega)
      rcases hC2 with ⟨hq, hc⟩ | ⟨hq, hc⟩ | hc | hc
      · have u1 : G ≤ 2 := hGj 1 hq
        have u2 : N * (16 - 2) ≤ 2 * A := h2 1 hq
        clear hF hGj h2
        omega
      · have u1 : G ≤ 16 := hGj 4 hq
        have u2 : N * (16 - 16) ≤ 2 * A := h2 4 hq
        clear hF hGj h2
        omega
      · clear hF hGj h2
        omega
      · clear hF hGj h2
        omega
    · show 4096 * C + (307200 * N2 + 2380800 - 480 * A2) ≤ 1150976 + F
      have f6 : 430080 * N + 3333120 - 1920 * A ≤ F := hF 6 (by omega) (by decide)
      have g1 : G ≤ 8 := hGj 3 (by omega)
      have g2 : N * (16 - 8) ≤ 2 * A := h2 3 (by omega)
      rcases hC2 with ⟨hq, hc⟩ | ⟨hq, hc⟩ | hc | hc
      · have u1 : G ≤ 2 := hGj 1 hq
        have u2 : N * (16 - 2) ≤ 2 * A := h2 1 hq
        clear hF hGj h2
        omega
      · have u1 : G ≤ 16 := hGj 4 hq
        have u2 : N * (16 - 16) ≤ 2 * A := h2 4 hq
        clear hF hGj h2
        omega
      · clear hF hGj h2
        omega
      · clear hF hGj h2
        omega
    · show 4096 * C + (245760 * N2 + 1904640 - 240 * A2) ≤ 1150976 + F
      have f7 : 368640 * N + 2856960 - 960 * A ≤ F := hF 7 (by omega) (by decide)
      have g1 : G ≤ 8 := hGj 3 (by omega)
      have g2 : N * (16 - 8) ≤ 2 * A := h2 3 (by omega)
      rcases hC2 with ⟨hq, hc⟩ | ⟨hq, hc⟩ | hc | hc
      · have u1 : G ≤ 2 := hGj 1 hq
        have u2 : N * (16 - 2) ≤ 2 * A := h2 1 hq
        clear hF hGj h2
        omega
      · have u1 : G ≤ 16 := hGj 4 hq
        have u2 : N * (16 - 16) ≤ 2 * A := h2 4 hq
        clear hF hGj h2
        omega
      · clear hF hGj h2
        omega
      · clear hF hGj h2
        omega
    · show 4096 * C + (184320 * N2 + 1428480 - 120 * A2) ≤ 1150976 + F
      have f8 : 307200 * N + 2380800 - 480 * A ≤ F := hF 8 (by omega) (by decide)
      have g1 : G ≤ 8 := hGj 3 (by omega)
      have g2 : N * (16 - 8) ≤ 2 * A := h2 3 (by omega)
      rcases hC2 with ⟨hq, hc⟩ | ⟨hq, hc⟩ | hc | hc
      · have u1 : G ≤ 2 := hGj 1 hq
        have u2 : N * (16 - 2) ≤ 2 * A := h2 1 hq
        clear hF hGj h2
        omega
      · have u1 : G ≤ 16 := hGj 4 hq
        have u2 : N * (16 - 16) ≤ 2 * A := h2 4 hq
        clear hF hGj h2
        omega
      · clear hF hGj h2
        omega
      · clear hF hGj h2
        omega
    · show 4096 * C + (122880 * N2 + 952320 - 60 * A2) ≤ 1150976 + F
      have f9 : 245760 * N + 1904640 - 240 * A ≤ F := hF 9 (by omega) (by decide)
      have g1 : G ≤ 8 := hGj 3 (by omega)
      have g2 : N * (16 - 8) ≤ 2 * A := h2 3 (by omega)
      rcases hC2 with ⟨hq, hc⟩ | ⟨hq, hc⟩ | hc | hc
      · have u1 : G ≤ 2 := hGj 1 hq
        have u2 : N * (16 - 2) ≤ 2 * A := h2 1 hq
        clear hF hGj h2
        omega
      · have u1 : G ≤ 16 := hGj 4 hq
        have u2 : N * (16 - 16) ≤ 2 * A := h2 4 hq
        clear hF hGj h2
        omega
      · clear hF hGj h2
        omega
      · clear hF hGj h2
        omega
    · show 4096 * C + (61440 * N2 + 476160 - 30 * A2) ≤ 1150976 + F
      have f10 : 184320 * N + 1428480 - 120 * A ≤ F := hF 10 (by omega) (by decide)
      have g1 : G ≤ 8 := hGj 3 (by omega)
      have g2 : N * (16 - 8) ≤ 2 * A := h2 3 (by omega)
      rcases hC2 with ⟨hq, hc⟩ | ⟨hq, hc⟩ | hc | hc
      · have u1 : G ≤ 2 := hGj 1 hq
        have u2 : N * (16 - 2) ≤ 2 * A := h2 1 hq
        clear hF hGj h2
        omega
      · have u1 : G ≤ 16 := hGj 4 hq
        have u2 : N * (16 - 16) ≤ 2 * A := h2 4 hq
        clear hF hGj h2
        omega
      · clear hF hGj h2
        omega
      · clear hF hGj h2
        omega
  ·
    have f4 : 552960 * N + 4285440 - 7680 * A ≤ F := hF 4 (by omega) (by decide)
    have g1 : G ≤ 8 := hGj 3 (by omega)
    have g2 : N * (16 - 8) ≤ 2 * A := h2 3 (by omega)
    rcases hC2 with ⟨hq, hc⟩ | ⟨hq, hc⟩ | hc | hc
    · have u1 : G ≤ 2 := hGj 1 hq
      have u2 : N * (16 - 2) ≤ 2 * A := h2 1 hq
      clear hF hGj h2
      omega
    · have u1 : G ≤ 16 := hGj 4 hq
      have u2 : N * (16 - 16) ≤ 2 * A := h2 4 hq
      clear hF hGj h2
      omega
    · clear hF hGj h2
      omega
    · clear hF hGj h2
      omega
theorem qs_x5 {g : Nat} {A N E z C F A2 N2 G : Int} (hF0 : 0 ≤ F) (hF : ∀ i : Nat, g ≤ i → i < 13 → qs_l i A N ≤ F) (hN : 1 ≤ N) (hN1 : N = 1 → 512 ≤ A) (hz : 0 ≤ z) (hE : 0 ≤ E) (h1 : A ≤ N * 32) (h3 : z * 32 ≤ 65536) (h4 : z * 32 ≤ 2 * E + G) (hC : C ≤ 529) (hm : (A2 = A + E ∧ N2 = N + 1) ∨ (3 ≤ N ∧ A + E - G ≤ 2 * A2 ∧ 2 * N2 ≤ N + 2)) (hg : g ≤ 4) (hG : 1 ≤ G ∧ G ≤ 16) (hGj : ∀ j : Nat, g ≤ j → G ≤ 2 ^ j) (h2 : ∀ j : Nat, g ≤ j → N * (32 - 2 ^ j) ≤ 2 * A) (hC2 : (g ≤ 1 ∧ C ≤ 8 * z + 62) ∨ (g ≤ 4 ∧ C ≤ 8 * z + 44) ∨ C ≤ 8 * z + 17 ∨ (g = 0 ∧ G = 1 ∧ 31 ≤ z ∧ C ≤ 8 * z + 161) ∨ (1 ≤ g ∧ 13 ≤ z ∧ C ≤ 8 * z + 152)) : (∀ j : Nat, g ≤ j → j < 13 → 4096 * C + qs_l j A2 N2 ≤ 1150976 + F) ∧ 4096 * C ≤ 1150976 + F := by
  constructor
  · intro j hj1 hj2
    have hjs : j = 0 ∨ j = 1 ∨ j = 2 ∨ j = 3 ∨ j = 4 ∨ j = 5 ∨ j = 6 ∨ j = 7 ∨ j = 8 ∨ j = 9 ∨ j = 10 ∨ j = 11 ∨ j = 12 := by omega
    rcases hjs with rfl | rfl | rfl | rfl | rfl | rfl | rfl | rfl | rfl | rfl | rfl | rfl | rfl
    · show 4096 * C + (798720 * N2 + 6190080 - 122880 * A2) ≤ 1150976 + F
      have f0 : 798720 * N + 6190080 - 122880 * A ≤ F := hF 0 (by omega) (by decide)
      have f1 : 737280 * N + 5713920 - 61440 * A ≤ F := hF 1 (by omega) (by decide)
      have g1 : G ≤ 1 := hGj 0 (by omega)
      have g2 : N * (32 - 1) ≤ 2 * A := h2 0 (by omega)
      rcases hC2 with ⟨hq, hc⟩ | ⟨hq, hc⟩ | hc | hc
      · have u1 : G ≤ 2 := hGj 1 hq
        have u2 : N * (32 - 2) ≤ 2 * A := h2 1 hq
        clear hF hGj h2
        omega
      · have u1 : G ≤ 16 := hGj 4 hq
        have u2 : N * (32 - 16) ≤ 2 * A := h2 4 hq
        clear hF hGj h2
        omega
      · clear hF hGj h2
        omega
      · clear hF hGj h2
        omega
    · show 4096 * C + (737280 * N2 + 5713920 - 61440 * A2) ≤ 1150976 + F
      have f1 : 737280 * N + 5713920 - 61440 * A ≤ F := hF 1 (by omega) (by decide)
      have f2 : 675840 * N + 5237760 - 30720 * A ≤ F := hF 2 (by omega) (by decide)
      have g1 : G ≤ 2 := hGj 1 (by omega)
      have g2 : N * (32 - 2) ≤ 2 * A := h2 1 (by omega)
      rcases hC2 with ⟨hq, hc⟩ | ⟨hq, hc⟩ | hc | hc
      · have u1 : G ≤ 2 := hGj 1 hq
        have u2 : N * (32 - 2) ≤ 2 * A := h2 1 hq
        clear hF hGj h2
        omega
      · have u1 : G ≤ 16 := hGj 4 hq
        have u2 : N * (32 - 16) ≤ 2 * A := h2 4 hq
        clear hF hGj h2
        omega
      · clear hF hGj h2
        omega
      · clear hF hGj h2
        omega
    · show 4096 * C + (675840 * N2 + 5237760 - 30720 * A2) ≤ 1150976 + F
      have f2 : 675840 * N + 5237760 - 30720 * A ≤ F := hF 2 (by omega) (by decide)
      have f3 : 614400 * N + 4761600 - 15360 * A ≤ F := hF 3 (by omega) (by decide)
      have g1 : G ≤ 4 := hGj 2 (by omega)
      have g2 : N * (32 - 4) ≤ 2 * A := h2 2 (by omega)
      rcases hC2 with ⟨hq, hc⟩ | ⟨hq, hc⟩ | hc | hc
      · have u1 : G ≤ 2 := hGj 1 hq
        have u2 : N * (32 - 2) ≤ 2 * A := h2 1 hq
        clear hF hGj h2
        omega
      · have u1 : G ≤ 16 := hGj 4 hq
        have u2 : N * (32 - 16) ≤ 2 * A := h2 4 hq
        clear hF hGj h2
        omega
      · clear hF hGj h2
        omega
      · clear hF hGj h2
        omega
    · show 4096 * C + (614400 * N2 + 4761600 - 15360 * A2) ≤ 1150976 + F
      have f3 : 614400 * N + 4761600 - 15360 * A ≤ F := hF 3 (by omega) (by decide)
      have g1 : G ≤ 8 := hGj 3 (by omega)
      have g2 : N * (32 - 8) ≤ 2 * A := h2 3 (by omega)
      rcases hC2 with ⟨hq, hc⟩ | ⟨hq, hc⟩ | hc | hc
      · have u1 : G ≤ 2 := hGj 1 hq
        have u2 : N * (32 - 2) ≤ 2 * A := h2 1 hq
        clear hF hGj h2
        omega
      · have u1 : G ≤ 16 := hGj 4 hq
        have u2 : N * (32 - 16) ≤ 2 * A := h2 4 hq
        clear hF hGj h2
        omega
      · clear hF hGj h2
        omega
      · clear hF hGj h2
        omega
    · show 4096 * C + (552960 * N2 + 4285440 - 7680 * A2) ≤ 1150976 + F
      have f4 : 552960 * N + 4285440 - 7680 * A ≤ F := hF 4 (by omega) (by decide)
      have g1 : G ≤ 16 := hGj 4 (by omega)
      have g2 : N * (32 - 16) ≤ 2 * A := h2 4 (by omega)
      rcases hC2 with ⟨hq, hc⟩ | ⟨hq, hc⟩ | hc | hc
      · have u1 : G ≤ 2 := hGj 1 hq
        have u2 : N * (32 - 2) ≤ 2 * A := h2 1 hq
        clear hF hGj h2
        omega
      · have u1 : G ≤ 16 := hGj 4 hq
        have u2 : N * (32 - 16) ≤ 2 * A := h2 4 hq
        clear hF hGj h2
        omega
      · clear hF hGj h2
        omega
      · clear hF hGj h2
        omega
    · show 4096 * C + (491520 * N2 + 3809280 - 3840 * A2) ≤ 1150976 + F
      have f5 : 491520 * N + 3809280 - 3840 * A ≤ F := hF 5 (by omega) (by decide)
      have g1 : G ≤ 16 := hGj 4 (by omega)
      have g2 : N * (32 - 16) ≤ 2 * A := h2 4 (by omega)
      rcases hC2 with ⟨hq, hc⟩ | ⟨hq, hc⟩ | hc | hc
      · have u1 : G ≤ 2 := hGj 1 hq
        have u2 : N * (32 - 2) ≤ 2 * A := h2 1 hq
        clear hF hGj h2
        omega
      · have u1 : G ≤ 16 := hGj 4 hq
        have u2 : N * (32 - 16) ≤ 2 * A := h2 4 hq
        clear hF hGj h2
        omega
      · clear hF hGj h2
        omega
      · clear hF hGj h2
        omega
    · show 4096 * C + (430080 * N2 + 3333120 - 1920 * A2) ≤ 1150976 + F
      have f5 : 491520 * N + 3809280 - 3840 * A ≤ F := hF 5 (by omega) (by decide)
      have f6 : 430080 * N + 3333120 - 1920 * A ≤ F := hF 6 (by omega) (by decide)
      have g1 : G ≤ 16 := hGj 4 (by omega)
      have g2 : N * (32 - 16) ≤ 2 * A := h2 4 (by omega)
      rcases hC2 with ⟨hq, hc⟩ | ⟨hq, hc⟩ | hc | hc
      · have u1 : G ≤ 2 := hGj 1 hq
        have u2 : N * (32 - 2) ≤ 2 * A := h2 1 hq
        clear hF hGj h2
        omega
      · have u1 : G ≤ 16 := hGj 4 hq
        have u2 : N * (32 - 16) ≤ 2 * A := h2 4 hq
        clear hF hGj h2
        omega
      · clear hF hGj h2
        omega
      · clear hF hGj h2
        omega
    · show 4096 * C + (368640 * N2 + 2856960 - 960 * A2) ≤ 1150976 + F
      have f5 : 491520 * N + 3809280 - 3840 * A ≤ F := hF 5 (by omega) (by decide)
      have f6 : 430080 * N + 3333120 - 1920 * A ≤ F := hF 6 (by omega) (by decide)
      have g1 : G ≤ 16 := hGj 4 (by omega)
      have g2 : N * (32 - 16) ≤ 2 * A := h2 4 (by omega)
      rcases hC2 with ⟨hq, hc⟩ | ⟨hq, hc⟩ | hc | hc
      · have u1 : G ≤ 2 := hGj 1 hq
        have u2 : N * (32 - 2) ≤ 2 * A := h2 1 hq
        clear hF hGj h2
        omega
      · have u1 : G ≤ 16 := hGj 4 hq
        have u2 : N * (32 - 16) ≤ 2 * A := h2 4 hq
        clear hF hGj h2
        omega
      · clear hF hGj h2
        omega
      · clear hF hGj h2
        omega
    · show 4096 * C + (307200 * N2 + 2380800 - 480 * A2) ≤ 1150976 + F
      have f6 : 430080 * N + 3333120 - 1920 * A ≤ F := hF 6 (by omega) (by decide)
      have g1 : G ≤ 16 := hGj 4 (by omega)
      have g2 : N * (32 - 16) ≤ 2 * A := h2 4 (by omega)
      rcases hC2 with ⟨hq, hc⟩ | ⟨hq, hc⟩ | hc | hc
      · have u1 : G ≤ 2 := hGj 1 hq
        have u2 : N * (32 - 2) ≤ 2 * A := h2 1 hq
        clear hF hGj h2
        omega
      · have u1 : G ≤ 16 := hGj 4 hq
        have u2 : N * (32 - 16) ≤ 2 * A := h2 4 hq
        clear hF hGj h2
        omega
      · clear hF hGj h2
        omega
      · clear hF hGj h2
        omega
    · show 4096 * C + (245760 * N2 + 1904640 - 240 * A2) ≤ 1150976 + F
      have f7 : 368640 * N + 2856960 - 960 * A ≤ F := hF 7 (by omega) (by decide)
      have g1 : G ≤ 16 := hGj 4 (by omega)
      have g2 : N * (32 - 16) ≤ 2 * A := h2 4 (by omega)
      rcases hC2 with ⟨hq, hc⟩ | ⟨hq, hc⟩ | hc | hc
      · have u1 : G ≤ 2 := hGj 1 hq
        have u2 : N * (32 - 2) ≤ 2 * A := h2 1 hq
        clear hF hGj h2
        omega
      · have u1 : G ≤ 16 := hGj 4 hq
        have u2 : N * (32 - 16) ≤ 2 * A := h2 4 hq
        clear hF hGj h2
        omega
      · clear hF hGj h2
        omega
      · clear hF hGj h2
        omega
    · show 4096 * C + (184320 * N2 + 1428480 - 120 * A2) ≤ 1150976 + F
      have f8 : 307200 * N + 2380800 - 480 * A ≤ F := hF 8 (by omega) (by decide)
      have g1 : G ≤ 16 := hGj 4 (by omega)
      have g2 : N * (32 - 16) ≤ 2 * A := h2 4 (by omega)
      rcases hC2 with ⟨hq, hc⟩ | ⟨hq, hc⟩ | hc | hc
      · have u1 : G ≤ 2 := hGj 1 hq
        have u2 : N * (32 - 2) ≤ 2 * A := h2 1 hq
        clear hF hGj h2
        omega
      · have u1 : G ≤ 16 := hGj 4 hq
        have u2 : N * (32 - 16) ≤ 2 * A := h2 4 hq
        clear hF hGj h2
        omega
      · clear hF hGj h2
        omega
      · clear hF hGj h2
        omega
    · show 4096 * C + (122880 * N2 + 952320 - 60 * A2) ≤ 1150976 + F
      have f9 : 245760 * N + 1904640 - 240 * A ≤ F := hF 9 (by omega) (by decide)
      have g1 : G ≤ 16 := hGj 4 (by omega)
      have g2 : N * (32 - 16) ≤ 2 * A := h2 4 (by omega)
      rcases hC2 with ⟨hq, hc⟩ | ⟨hq, hc⟩ | hc | hc
      · have u1 : G ≤ 2 := hGj 1 hq
        have u2 : N * (32 - 2) ≤ 2 * A := h2 1 hq
        clear hF hGj h2
        omega
      · have u1 : G ≤ 16 := hGj 4 hq
        have u2 : N * (32 - 16) ≤ 2 * A := h2 4 hq
        clear hF hGj h2
        omega
      · clear hF hGj h2
        omega
      · clear hF hGj h2
        omega
    · show 4096 * C + (61440 * N2 + 476160 - 30 * A2) ≤ 1150976 + F
      have f10 : 184320 * N + 1428480 - 120 * A ≤ F := hF 10 (by omega) (by decide)
      have g1 : G ≤ 16 := hGj 4 (by omega)
      have g2 : N * (32 - 16) ≤ 2 * A := h2 4 (by omega)
      rcases hC2 with ⟨hq, hc⟩ | ⟨hq, hc⟩ | hc | hc
      · have u1 : G ≤ 2 := hGj 1 hq
        have u2 : N * (32 - 2) ≤ 2 * A := h2 1 hq
        clear hF hGj h2
        omega
      · have u1 : G ≤ 16 := hGj 4 hq
        have u2 : N * (32 - 16) ≤ 2 * A := h2 4 hq
        clear hF hGj h2
        omega
      · clear hF hGj h2
        omega
      · clear hF hGj h2
        omega
  ·
    have f5 : 491520 * N + 3809280 - 3840 * A ≤ F := hF 5 (by omega) (by decide)
    have g1 : G ≤ 16 := hGj 4 (by omega)
    have g2 : N * (32 - 16) ≤ 2 * A := h2 4 (by omega)
    rcases hC2 with ⟨hq, hc⟩ | ⟨hq, hc⟩ | hc | hc
    · have u1 : G ≤ 2 := hGj 1 hq
      have u2 : N * (32 - 2) ≤ 2 * A := h2 1 hq
      clear hF hGj h2
      omega
    · have u1 : G ≤ 16 := hGj 4 hq
      have u2 : N * (32 - 16) ≤ 2 * A := h2 4 hq
      clear hF hGj h2
      omega
    · clear hF hGj h2
      omega
    · clear hF hGj h2
      omega
theorem qs_x6 {g : Nat} {A N E z C F A2 N2 G : Int} (hF0 : 0 ≤ F) (hF : ∀ i : Nat, g ≤ i → i < 13 → qs_l i A N ≤ F) (hN : 1 ≤ N) (hN1 : N = 1 → 512 ≤ A) (hz : 0 ≤ z) (hE : 0 ≤ E) (h1 : A ≤ N * 64) (h3 : z * 64 ≤ 65536) (h4 : z * 64 ≤ 2 * E + G) (hC : C ≤ 529) (hm : (A2 = A + E ∧ N2 = N + 1) ∨ (3 ≤ N ∧ A + E - G ≤ 2 * A2 ∧ 2 * N2 ≤ N + 2)) (hg : g ≤ 5) (hG : 1 ≤ G ∧ G ≤ 32) (hGj : ∀ j : Nat, g ≤ j → G ≤ 2 ^ j) (h2 : ∀ j : Nat, g ≤ j → N * (64 - 2 ^ j) ≤ 2 * A) (hC2 : (g ≤ 1 ∧ C ≤ 8 * z + 71) ∨ (g ≤ 4 ∧ C ≤ 8 * z + 53) ∨ C ≤ 8 * z + 26 ∨ (g = 0 ∧ G = 1 ∧ 31 ≤ z ∧ C ≤ 8 * z + 161) ∨ (1 ≤ g ∧ 13 ≤ z ∧ C ≤ 8 * z + 152)) : (∀ j : Nat, g ≤ j → j < 13 → 4096 * C + qs_l j A2 N2 ≤ 1150976 + F) ∧ 4096 * C ≤ 1150976 + F := by
  constructor
  · intro j hj1 hj2
    have hjs : j = 0 ∨ j = 1 ∨ j = 2 ∨ j = 3 ∨ j = 4 ∨ j = 5 ∨ j = 6 ∨ j = 7 ∨ j = 8 ∨ j = 9 ∨ j = 10 ∨ j = 11 ∨ j = 12 := by omega
    rcases hjs with rfl | rfl | rfl | rfl | rfl | rfl | rfl | rfl | rfl | rfl | rfl | rfl | rfl
    · show 4096 * C + (798720 * N2 + 6190080 - 122880 * A2) ≤ 1150976 + F
      have f1 : 737280 * N + 5713920 - 61440 * A ≤ F := hF 1 (by omega) (by decide)
      have g1 : G ≤ 1 := hGj 0 (by omega)
      have g2 : N * (64 - 1) ≤ 2 * A := h2 0 (by omega)
      rcases hC2 with ⟨hq, hc⟩ | ⟨hq, hc⟩ | hc | hc
      · have u1 : G ≤ 2 := hGj 1 hq
        have u2 : N * (64 - 2) ≤ 2 * A := h2 1 hq
        clear hF hGj h2
        omega
      · have u1 : G ≤ 16 := hGj 4 hq
        have u2 : N * (64 - 16) ≤ 2 * A := h2 4 hq
        clear hF hGj h2
        omega
      · clear hF hGj h2
        omega
      · clear hF hGj h2
        omega
    · show 4096 * C + (737280 * N2 + 5713920 - 61440 * A2) ≤ 1150976 + F
      have f1 : 737280 * N + 5713920 - 61440 * A ≤ F := hF 1 (by omega) (by decide)
      have f2 : 675840 * N + 5237760 - 30720 * A ≤ F := hF 2 (by omega) (by decide)
      have g1 : G ≤ 2 := hGj 1 (by omega)
      have g2 : N * (64 - 2) ≤ 2 * A := h2 1 (by omega)
      rcases hC2 with ⟨hq, hc⟩ | ⟨hq, hc⟩ | hc | hc
      · have u1 : G ≤ 2 := hGj 1 hq
        have u2 : N * (64 - 2) ≤ 2 * A := h2 1 hq
        clear hF hGj h2
        omega
      · have u1 : G ≤ 16 := hGj 4 hq
        have u2 : N * (64 - 16) ≤ 2 * A := h2 4 hq
        clear hF hGj h2
        omega
      · clear hF hGj h2
        omega
      · clear hF hGj h2
        omega
    · show 4096 * C + (675840 * N2 + 5237760 - 30720 * A2) ≤ 1150976 + F
      have f2 : 675840 * N + 5237760 - 30720 * A ≤ F := hF 2 (by omega) (by decide)
      have f3 : 614400 * N + 4761600 - 15360 * A ≤ F := hF 3 (by omega) (by decide)
      have g1 : G ≤ 4 := hGj 2 (by omega)
      have g2 : N * (64 - 4) ≤ 2 * A := h2 2 (by omega)
      rcases hC2 with ⟨hq, hc⟩ | ⟨hq, hc⟩ | hc | hc
      · have u1 : G ≤ 2 := hGj 1 hq
        have u2 : N * (64 - 2) ≤ 2 * A := h2 1 hq
        clear hF hGj h2
        omega
      · have u1 : G ≤ 16 := hGj 4 hq
        have u2 : N * (64 - 16) ≤ 2 * A := h2 4 hq
        clear hF hGj h2
        omega
      · clear hF hGj h2
        omega
      · clear hF hGj h2
        omega
    · show 4096 * C + (614400 * N2 + 4761600 - 15360 * A2) ≤ 1150976 + F
      have f3 : 614400 * N + 4761600 - 15360 * A ≤ F := hF 3 (by omega) (by decide)
      have f4 : 552960 * N + 4285440 - 7680 * A ≤ F := hF 4 (by omega) (by decide)
      have g1 : G ≤ 8 := hGj 3 (by omega)
      have g2 : N * (64 - 8) ≤ 2 * A := h2 3 (by omega)
      rcases hC2 with ⟨hq, hc⟩ | ⟨hq, hc⟩ | hc | hc
      · have u1 : G ≤ 2 := hGj 1 hq
        have u2 : N * (64 - 2) ≤ 2 * A := h2 1 hq
        clear hF hGj h2
        omega
      · have u1 : G ≤ 16 := hGj 4 hq
        have u2 : N * (64 - 16) ≤ 2 * A := h2 4 hq
        clear hF hGj h2
        omega
      · clear hF hGj h2
        omega
      · clear hF hGj h2
        omega
    · show 4096 * C + (552960 * N2 + 4285440 - 7680 * A2) ≤ 1150976 + F
      have f4 : 552960 * N + 4285440 - 7680 * A ≤ F := hF 4 (by omega) (by decide)
      have g1 : G ≤ 16 := hGj 4 (by omega)
      have g2 : N * (64 - 16) ≤ 2 * A := h2 4 (by omega)
      rcases hC2 with ⟨hq, hc⟩ | ⟨hq, hc⟩ | hc | hc
      · have u1 : G ≤ 2 := hGj 1 hq
        have u2 : N * (64 - 2) ≤ 2 * A := h2 1 hq
        clear hF hGj h2
        omega
      · have u1 : G ≤ 16 := hGj 4 hq
        have u2 : N * (64 - 16) ≤ 2 * A := h2 4 hq
        clear hF hGj h2
        omega
      · clear hF hGj h2
        omega
      · clear hF hGj h2
        omega
    · show 4096 * C + (491520 * N2 + 3809280 - 3840 * A2) ≤ 1150976 + F
      have f5 : 491520 * N + 3809280 - 3840 * A ≤ F := hF 5 (by omega) (by decide)
      have g1 : G ≤ 32 := hGj 5 (by omega)
      have g2 : N * (64 - 32) ≤ 2 * A := h2 5 (by omega)
      rcases hC2 with ⟨hq, hc⟩ | ⟨hq, hc⟩ | hc | hc
      · have u1 : G ≤ 2 := hGj 1 hq
        have u2 : N * (64 - 2) ≤ 2 * A := h2 1 hq
        clear hF hGj h2
        omega
      · have u1 : G ≤ 16 := hGj 4 hq
        have u2 : N * (64 - 16) ≤ 2 * A := h2 4 hq
        clear hF hGj h2
        omega
      · clear hF hGj h2
        omega
      · clear hF hGj h2
        omega
    · show 4096 * C + (430080 * N2 + 3333120 - 1920 * A2) ≤ 1150976 + F
      have f6 : 430080 * N + 3333120 - 1920 * A ≤ F := hF 6 (by omega) (by decide)
      have g1 : G ≤ 32 := hGj 5 (by omega)
      have g2 : N * (64 - 32) ≤ 2 * A := h2 5 (by omega)
      rcases hC2 with ⟨hq, hc⟩ | ⟨hq, hc⟩ | hc | hc
      · have u1 : G ≤ 2 := hGj 1 hq
        have u2 : N * (64 - 2) ≤ 2 * A := h2 1 hq
        clear hF hGj h2
        omega
      · have u1 : G ≤ 16 := hGj 4 hq
        have u2 : N * (64 - 16) ≤ 2 * A := h2 4 hq
        clear hF hGj h2
        omega
      · clear hF hGj h2
        omega
      · clear hF hGj h2
        omega
    · show 4096 * C + (368640 * N2 + 2856960 - 960 * A2) ≤ 1150976 + F
      have f6 : 430080 * N + 3333120 - 1920 * A ≤ F := hF 6 (by omega) (by decide)
      have f7 : 368640 * N + 2856960 - 960 * A ≤ F := hF 7 (by omega) (by decide)
      have g1 : G ≤ 32 := hGj 5 (by omega)
      have g2 : N * (64 - 32) ≤ 2 * A := h2 5 (by omega)
      rcases hC2 with ⟨hq, hc⟩ | ⟨hq, hc⟩ | hc | hc
      · have u1 : G ≤ 2 := hGj 1 hq
        have u2 : N * (64 - 2) ≤ 2 * A := h2 1 hq
        clear hF hGj h2
        omega
      · have u1 : G ≤ 16 := hGj 4 hq
        have u2 : N * (64 - 16) ≤ 2 * A := h2 4 hq
        clear hF hGj h2
        omega
      · clear hF hGj h2
        omega
      · clear hF hGj h2
        omega
    · show 4096 * C + (307200 * N2 + 2380800 - 480 * A2) ≤ 1150976 + F
      have f6 : 430080 * N + 3333120 - 1920 * A ≤ F := hF 6 (by omega) (by decide)
      have f7 : 368640 * N + 2856960 - 960 * A ≤ F := hF 7 (by omega) (by decide)
      have g1 : G ≤ 32 := hGj 5 (by omega)
      have g2 : N * (64 - 32) ≤ 2 * A := h2 5 (by omega)
      rcases hC2 with ⟨hq, hc⟩ | ⟨hq, hc⟩ | hc | hc
      · have u1 : G ≤ 2 := hGj 1 hq
        have u2 : N * (64 - 2) ≤ 2 * A := h2 1 hq
        clear hF hGj h2
        omega
      · have u1 : G ≤ 16 := hGj 4 hq
        have u2 : N * (64 - 16) ≤ 2 * A := h2 4 hq
        clear hF hGj h2
        omega
      · clear hF hGj h2
        omega
      · clear hF hGj h2
        omega
    · show 4096 * C + (245760 * N2 + 1904640 - 240 * A2) ≤ 1150976 + F
      have f7 : 368640 * N + 2856960 - 960 * A ≤ F := hF 7 (by omega) (by decide)
      have g1 : G ≤ 32 := hGj 5 (by omega)
      have g2 : N * (64 - 32) ≤ 2 * A := h2 5 (by omega)
      rcases hC2 with ⟨hq, hc⟩ | ⟨hq, hc⟩ | hc | hc
      · have u1 : G ≤ 2 := hGj 1 hq
        have u2 : N * (64 - 2) ≤ 2 * A := h2 1 hq
        clear hF hGj h2
        omega
      · have u1 : G ≤ 16 := hGj 4 hq
        have u2 : N * (64 - 16) ≤ 2 * A := h2 4 hq
        clear hF hGj h2
        omega
      · clear hF hGj h2
        omega
      · clear hF hGj h2
        omega
    · show 4096 * C + (184320 * N2 + 1428480 - 120 * A2) ≤ 1150976 + F
      have f8 : 307200 * N + 2380800 - 480 * A ≤ F := hF 8 (by omega) (by decide)
      have g1 : G ≤ 32 := hGj 5 (by omega)
      have g2 : N * (64 - 32) ≤ 2 * A := h2 5 (by omega)
      rcases hC2 with ⟨hq, hc⟩ | ⟨hq, hc⟩ | hc | hc
      · have u1 : G ≤ 2 := hGj 1 hq
        have u2 : N * (64 - 2) ≤ 2 * A := h2 1 hq
        clear hF hGj h2
        omega
      · have u1 : G ≤ 16 := hGj 4 hq
        have u2 : N * (64 - 16) ≤ 2 * A := h2 4 hq
        clear hF hGj h2
        omega
      · clear hF hGj h2
        omega
      · clear hF hGj h2
        omega
    · show 4096 * C + (122880 * N2 + 952320 - 60 * A2) ≤ 1150976 + F
      have f9 : 245760 * N + 1904640 - 240 * A ≤ F := hF 9 (by omega) (by decide)
      have g1 : G ≤ 32 := hGj 5 (by omega)
      have g2 : N * (64 - 32) ≤ 2 * A := h2 5 (by omega)
      rcases hC2 with ⟨hq, hc⟩ | ⟨hq, hc⟩ | hc | hc
      · have u1 : G ≤ 2 := hGj 1 hq
        have u2 : N * (64 - 2) ≤ 2 * A := h2 1 hq
        clear hF hGj h2
        omega
      · have u1 : G ≤ 16 := hGj 4 hq
        have u2 : N * (64 - 16) ≤ 2 * A := h2 4 hq
        clear hF hGj h2
        omega
      · clear hF hGj h2
        omega
      · clear hF hGj h2
        omega
    · show 4096 * C + (61440 * N2 + 476160 - 30 * A2) ≤ 1150976 + F
      have f10 : 184320 * N + 1428480 - 120 * A ≤ F := hF 10 (by omega) (by decide)
      have g1 : G ≤ 32 := hGj 5 (by omega)
      have g2 : N * (64 - 32) ≤ 2 * A := h2 5 (by omega)
      rcases hC2 with ⟨hq, hc⟩ | ⟨hq, hc⟩ | hc | hc
      · have u1 : G ≤ 2 := hGj 1 hq
        have u2 : N * (64 - 2) ≤ 2 * A := h2 1 hq
        clear hF hGj h2
        omega
      · have u1 : G ≤ 16 := hGj 4 hq
        have u2 : N * (64 - 16) ≤ 2 * A := h2 4 hq
        clear hF hGj h2
        omega
      · clear hF hGj h2
        omega
      · clear hF hGj h2
        omega
  ·
    have f6 : 430080 * N + 3333120 - 1920 * A ≤ F := hF 6 (by omega) (by decide)
    have g1 : G ≤ 32 := hGj 5 (by omega)
    have g2 : N * (64 - 32) ≤ 2 * A := h2 5 (by omega)
    rcases hC2 with ⟨hq, hc⟩ | ⟨hq, hc⟩ | hc | hc
    · have u1 : G ≤ 2 := hGj 1 hq
      have u2 : N * (64 - 2) ≤ 2 * A := h2 1 hq
      clear hF hGj h2
      omega
    · have u1 : G ≤ 16 := hGj 4 hq
      have u2 : N * (64 - 16) ≤ 2 * A := h2 4 hq
      clear hF hGj h2
      omega
    · clear hF hGj h2
      omega
    · clear hF hGj h2
      omega
theorem qs_x7 {g : Nat} {A N E z C F A2 N2 G : Int} (hF0 : 0 ≤ F) (hF : ∀ i : Nat, g ≤ i → i < 13 → qs_l i A N ≤ F) (hN : 1 ≤ N) (hN1 : N = 1 → 512 ≤ A) (hz : 0 ≤ z) (hE : 0 ≤ E) (h1 : A ≤ N * 128) (h3 : z * 128 ≤ 65536) (h4 : z * 128 ≤ 2 * E + G) (hC : C ≤ 529) (hm : (A2 = A + E ∧ N2 = N + 1) ∨ (3 ≤ N ∧ A + E - G ≤ 2 * A2 ∧ 2 * N2 ≤ N + 2)) (hg : g ≤ 6) (hG : 1 ≤ G ∧ G ≤ 64) (hGj : ∀ j : Nat, g ≤ j → G ≤ 2 ^ j) (h2 : ∀ j : Nat, g ≤ j → N * (128 - 2 ^ j) ≤ 2 * A) (hC2 : (g ≤ 1 ∧ C ≤ 8 * z + 80) ∨ (g ≤ 4 ∧ C ≤ 8 * z + 62) ∨ C ≤ 8 * z + 35 ∨ (g = 0 ∧ G = 1 ∧ 31 ≤ z ∧ C ≤ 8 * z + 161) ∨ (1 ≤ g ∧ 13 ≤ z ∧ C ≤ 8 * z + 152)) : (∀ j : Nat, g ≤ j → j < 13 → 4096 * C + qs_l j A2 N2 ≤ 1150976 + F) ∧ 4096 * C ≤ 1150976 + F := by
  constructor
  · intro j hj1 hj2
    have hjs : j = 0 ∨ j = 1 ∨ j = 2 ∨ j = 3 ∨ j = 4 ∨ j = 5 ∨ j = 6 ∨ j = 7 ∨ j = 8 ∨ j = 9 ∨ j = 10 ∨ j = 11 ∨ j = 12 := by omega
    rcases hjs with rfl | rfl | rfl | rfl | rfl | rfl | rfl | rfl | rfl | rfl | rfl | rfl | rfl
    · show 4096 * C + (798720 * N2 + 6190080 - 122880 * A2) ≤ 1150976 + F
      have g1 : G ≤ 1 := hGj 0 (by omega)
      have g2 : N * (128 - 1) ≤ 2 * A := h2 0 (by omega)
      rcases hC2 with ⟨hq, hc⟩ | ⟨hq, hc⟩ | hc | hc
      · have u1 : G ≤ 2 := hGj 1 hq
        have u2 : N * (128 - 2) ≤ 2 * A := h2 1 hq
        clear hF hGj h2
        omega
      · have u1 : G ≤ 16 := hGj 4 hq
        have u2 : N * (128 - 16) ≤ 2 * A := h2 4 hq
        clear hF hGj h2
        omega
      · clear hF hGj h2
        omega
      · clear hF hGj h2
        omega
    · show 4096 * C + (737280 * N2 + 5713920 - 61440 * A2) ≤ 1150976 + F
      have f2 : 675840 * N + 5237760 - 30720 * A ≤ F := hF 2 (by omega) (by decide)
      have g1 : G ≤ 2 := hGj 1 (by omega)
      have g2 : N * (128 - 2) ≤ 2 * A := h2 1 (by omega)
      rcases hC2 with ⟨hq, hc⟩ | ⟨hq, hc⟩ | hc | hc
      · have u1 : G ≤ 2 := hGj 1 hq
        have u2 : N * (128 - 2) ≤ 2 * A := h2 1 hq
        clear hF hGj h2
        omega
      · have u1 : G ≤ 16 := hGj 4 hq
        have u2 : N * (128 - 16) ≤ 2 * A := h2 4 hq
        clear hF hGj h2
        omega
      · clear hF hGj h2
        omega
      · clear hF hGj h2
        omega
    · show 4096 * C + (675840 * N2 + 5237760 - 30720 * A2) ≤ 1150976 + F
      have f2 : 675840 * N + 5237760 - 30720 * A ≤ F := hF 2 (by omega) (by decide)
      have f3 : 614400 * N + 4761600 - 15360 * A ≤ F := hF 3 (by omega) (by decide)
      have g1 : G ≤ 4 := hGj 2 (by omega)
      have g2 : N * (128 - 4) ≤ 2 * A := h2 2 (by omega)
      rcases hC2 with ⟨hq, hc⟩ | ⟨hq, hc⟩ | hc | hc
      · have u1 : G ≤ 2 := hGj 1 hq
        have u2 : N * (128 - 2) ≤ 2 * A := h2 1 hq
        clear hF hGj h2
        omega
      · have u1 : G ≤ 16 := hGj 4 hq
        have u2 : N * (128 - 16) ≤ 2 * A := h2 4 hq
        clear hF hGj h2
        omega
      · clear hF hGj h2
        omega
      · clear hF hGj h2
        omega
    · show 4096 * C + (614400 * N2 + 4761600 - 15360 * A2) ≤ 1150976 + F
      have f3 : 614400 * N + 4761600 - 15360 * A ≤ F := hF 3 (by omega) (by decide)
      have f4 : 552960 * N + 4285440 - 7680 * A ≤ F := hF 4 (by omega) (by decide)
      have g1 : G ≤ 8 := hGj 3 (by omega)
      have g2 : N * (128 - 8) ≤ 2 * A := h2 3 (by omega)
      rcases hC2 with ⟨hq, hc⟩ | ⟨hq, hc⟩ | hc | hc
      · have u1 : G ≤ 2 := hGj 1 hq
        have u2 : N * (128 - 2) ≤ 2 * A := h2 1 hq
        clear hF hGj h2
        omega
      · have u1 : G ≤ 16 := hGj 4 hq
        have u2 : N * (128 - 16) ≤ 2 * A := h2 4 hq
        clear hF hGj h2
        omega
      · clear hF hGj h2
        omega
      · clear hF hGj h2
        omega
    · show 4096 * C + (552960 * N2 + 4285440 - 7680 * A2) ≤ 1150976 + F
      have f4 : 552960 * N + 4285440 - 7680 * A ≤ F := hF 4 (by omega) (by decide)
      have f5 : 491520 * N + 3809280 - 3840 * A ≤ F := hF 5 (by omega) (by decide)
      have g1 : G ≤ 16 := hGj 4 (by omega)
      have g2 : N * (128 - 16) ≤ 2 * A := h2 4 (by omega)
      rcases hC2 with ⟨hq, hc⟩ | ⟨hq, hc⟩ | hc | hc
      · have u1 : G ≤ 2 := hGj 1 hq
        have u2 : N * (128 - 2) ≤ 2 * A := h2 1 hq
        clear hF hGj h2
        omega
      · have u1 : G ≤ 16 := hGj 4 hq
        have u2 : N * (128 - 16) ≤ 2 * A := h2 4 hq
        clear hF hGj h2
        omega
      · clear hF hGj h2
        omega
      · clear hF hGj h2
        omega
    · show 4096 * C + (491520 * N2 + 3809280 - 3840 * A2) ≤ 1150976 + F
      have f5 : 491520 * N + 3809280 - 3840 * A ≤ F := hF 5 (by omega) (by decide)
      have g1 : G ≤ 32 := hGj 5 (by omega)
      have g2 : N * (128 - 32) ≤ 2 * A := h2 5 (by omega)
      rcases hC2 with ⟨hq, hc⟩ | ⟨hq, hc⟩ | hc | hc
      · have u1 : G ≤ 2 := hGj 1 hq
        have u2 : N * (128 - 2) ≤ 2 * A := h2 1 hq
        clear hF hGj h2
        omega
      · have u1 : G ≤ 16 := hGj 4 hq
        have u2 : N * (128 - 16) ≤ 2 * A := h2 4 hq
        clear hF hGj h2
        omega
      · clear hF hGj h2
        omega
      · clear hF hGj h2
        omega
    · show 4096 * C + (430080 * N2 + 3333120 - 1920 * A2) ≤ 1150976 + F
      have f6 : 430080 * N + 3333120 - 1920 * A ≤ F := hF 6 (by omega) (by decide)
      have g1 : G ≤ 64 := hGj 6 (by omega)
      have g2 : N * (128 - 64) ≤ 2 * A := h2 6 (by omega)
      rcases hC2 with ⟨hq, hc⟩ | ⟨hq, hc⟩ | hc | hc
      · have u1 : G ≤ 2 := hGj 1 hq
        have u2 : N * (128 - 2) ≤ 2 * A := h2 1 hq
        clear hF hGj h2
        omega
      · have u1 : G ≤ 16 := hGj 4 hq
        have u2 : N * (128 - 16) ≤ 2 * A := h2 4 hq
        clear hF hGj h2
        omega
      · clear hF hGj h2
        omega
      · clear hF hGj h2
        omega
    · show 4096 * C + (368640 * N2 + 2856960 - 960 * A2) ≤ 1150976 + F
      have f7 : 368640 * N + 2856960 - 960 * A ≤ F := hF 7 (by omega) (by decide)
      have g1 : G ≤ 64 := hGj 6 (by omega)
      have g2 : N * (128 - 64) ≤ 2 * A := h2 6 (by omega)
      rcases hC2 with ⟨hq, hc⟩ | ⟨hq, hc⟩ | hc | hc
      · have u1 : G ≤ 2 := hGj 1 hq
        have u2 : N * (128 - 2) ≤ 2 * A := h2 1 hq
        clear hF hGj h2
        omega
      · have u1 : G ≤ 16 := hGj 4 hq
        have u2 : N * (128 - 16) ≤ 2 * A := h2 4 hq
        clear hF hGj h2
        omega
      · clear hF hGj h2
        omega
      · clear hF hGj h2
        omega
    · show 4096 * C + (307200 * N2 + 2380800 - 480 * A2) ≤ 1150976 + F
      have f7 : 368640 * N + 2856960 - 960 * A ≤ F := hF 7 (by omega) (by decide)
      have f8 : 307200 * N + 2380800 - 480 * A ≤ F := hF 8 (by omega) (by decide)
      have g1 : G ≤ 64 := hGj 6 (by omega)
      have g2 : N * (128 - 64) ≤ 2 * A := h2 6 (by omega)
      rcases hC2 with ⟨hq, hc⟩ | ⟨hq, hc⟩ | hc | hc
      · have u1 : G ≤ 2 := hGj 1 hq
        have u2 : N * (128 - 2) ≤ 2 * A := h2 1 hq
        clear hF hGj h2
        omega
      · have u1 : G ≤ 16 := hGj 4 hq
        have u2 : N * (128 - 16) ≤ 2 * A := h2 4 hq
        clear hF hGj h2
        omega
      · clear hF hGj h2
        omega
      · clear hF hGj h2
        omega
    · show 4096 * C + (245760 * N2 + 1904640 - 240 * A2) ≤ 1150976 + F
      have f7 : 368640 * N + 2856960 - 960 * A ≤ F := hF 7 (by omega) (by decide)
      have f8 : 307200 * N + 2380800 - 480 * A ≤ F := hF 8 (by omega) (by decide)
      have g1 : G ≤ 64 := hGj 6 (by omega)
      have g2 : N * (128 - 64) ≤ 2 * A := h2 6 (by omega)
      rcases hC2 with ⟨hq, hc⟩ | ⟨hq, hc⟩ | hc | hc
      · have u1 : G ≤ 2 := hGj 1 hq
        have u2 : N * (128 - 2) ≤ 2 * A := h2 1 hq
        clear hF hGj h2
        omega
      · have u1 : G ≤ 16 := hGj 4 hq
        have u2 : N * (128 - 16) ≤ 2 * A := h2 4 hq
        clear hF hGj h2
        omega
      · clear hF hGj h2
        omega
      · clear hF hGj h2
        omega
    · show 4096 * C + (184320 * N2 + 1428480 - 120 * A2) ≤ 1150976 + F
      have f8 : 307200 * N + 2380800 - 480 * A ≤ F := hF 8 (by omega) (by decide)
      have g1 : G ≤ 64 := hGj 6 (by omega)
      have g2 : N * (128 - 64) ≤ 2 * A := h2 6 (by omega)
      rcases hC2 with ⟨hq, hc⟩ | ⟨hq, hc⟩ | hc | hc
      · have u1 : G ≤ 2 := hGj 1 hq
        have u2 : N * (128 - 2) ≤ 2 * A := h2 1 hq
        clear hF hGj h2
        omega
      · have u1 : G ≤ 16 := hGj 4 hq
        have u2 : N * (128 - 16) ≤ 2 * A := h2 4 hq
        clear hF hGj h2
        omega
      · clear hF hGj h2
        omega
      · clear hF hGj h2
        omega
    · show 4096 * C + (122880 * N2 + 952320 - 60 * A2) ≤ 1150976 + F
      have f9 : 245760 * N + 1904640 - 240 * A ≤ F := hF 9 (by omega) (by decide)
      have g1 : G ≤ 64 := hGj 6 (by omega)
      have g2 : N * (128 - 64) ≤ 2 * A := h2 6 (by omega)
      rcases hC2 with ⟨hq, hc⟩ | ⟨hq, hc⟩ | hc | hc
      · have u1 : G ≤ 2 := hGj 1 hq
        have u2 : N * (128 - 2) ≤ 2 * A := h2 1 hq
        clear hF hGj h2
        omega
      · have u1 : G ≤ 16 := hGj 4 hq
        have u2 : N * (128 - 16) ≤ 2 * A := h2 4 hq
        clear hF hGj h2
        omega
      · clear hF hGj h2
        omega
      · clear hF hGj h2
        omega
    · show 4096 * C + (61440 * N2 + 476160 - 30 * A2) ≤ 1150976 + F
      have f10 : 184320 * N + 1428480 - 120 * A ≤ F := hF 10 (by omega) (by decide)
      have g1 : G ≤ 64 := hGj 6 (by omega)
      have g2 : N * (128 - 64) ≤ 2 * A := h2 6 (by omega)
      rcases hC2 with ⟨hq, hc⟩ | ⟨hq, hc⟩ | hc | hc
      · have u1 : G ≤ 2 := hGj 1 hq
        have u2 : N * (128 - 2) ≤ 2 * A := h2 1 hq
        clear hF hGj h2
        omega
      · have u1 : G ≤ 16 := hGj 4 hq
        have u2 : N * (128 - 16) ≤ 2 * A := h2 4 hq
        clear hF hGj h2
        omega
      · clear hF hGj h2
        omega
      · clear hF hGj h2
        omega
  ·
    have f7 : 368640 * N + 2856960 - 960 * A ≤ F := hF 7 (by omega) (by decide)
    have g1 : G ≤ 64 := hGj 6 (by omega)
    have g2 : N * (128 - 64) ≤ 2 * A := h2 6 (by omega)
    rcases hC2 with ⟨hq, hc⟩ | ⟨hq, hc⟩ | hc | hc
    · have u1 : G ≤ 2 := hGj 1 hq
      have u2 : N * (128 - 2) ≤ 2 * A := h2 1 hq
      clear hF hGj h2
      omega
    · have u1 : G ≤ 16 := hGj 4 hq
      have u2 : N * (128 - 16) ≤ 2 * A := h2 4 hq
      clear hF hGj h2
      omega
    · clear hF hGj h2
      omega
    · clear hF hGj h2
      omega
theorem qs_x8 {g : Nat} {A N E z C F A2 N2 G : Int} (hF0 : 0 ≤ F) (hF : ∀ i : Nat, g ≤ i → i < 13 → qs_l i A N ≤ F) (hN : 1 ≤ N) (hN1 : N = 1 → 512 ≤ A) (hz : 0 ≤ z) (hE : 0 ≤ E) (h1 : A ≤ N * 256) (h3 : z * 256 ≤ 65536) (h4 : z * 256 ≤ 2 * E + G) (hC : C ≤ 529) (hm : (A2 = A + E ∧ N2 = N + 1) ∨ (3 ≤ N ∧ A + E - G ≤ 2 * A2 ∧ 2 * N2 ≤ N + 2)) (hg : g ≤ 7) (hG : 1 ≤ G ∧ G ≤ 128) (hGj : ∀ j : Nat, g ≤ j → G ≤ 2 ^ j) (h2 : ∀ j : Nat, g ≤ j → N * (256 - 2 ^ j) ≤ 2 * A) (hC2 : (g ≤ 1 ∧ C ≤ 8 * z + 89) ∨ (g ≤ 4 ∧ C ≤ 8 * z + 71) ∨ C ≤ 8 * z + 44 ∨ (g = 0 ∧ G = 1 ∧ 31 ≤ z ∧ C ≤ 8 * z + 161) ∨ (1 ≤ g ∧ 13 ≤ z ∧ C ≤ 8 * z + 152)) : (∀ j : Nat, g ≤ j → j < 13 → 4096 * C + qs_l j A2 N2 ≤ 1150976 + F) ∧ 4096 * C ≤ 1150976 + F := by
  constructor
  · intro j hj1 hj2
    have hjs : j = 0 ∨ j = 1 ∨ j = 2 ∨ j = 3 ∨ j = 4 ∨ j = 5 ∨ j = 6 ∨ j = 7 ∨ j = 8 ∨ j = 9 ∨ j = 10 ∨ j = 11 ∨ j = 12 := by omega
    rcases hjs with rfl | rfl | rfl | rfl | rfl | rfl | rfl | rfl | rfl | rfl | rfl | rfl | rfl
    · show 4096 * C + (798720 * N2 + 6190080 - 122880 * A2) ≤ 1150976 + F
      have g1 : G ≤ 1 := hGj 0 (by omega)
      have g2 : N * (256 - 1) ≤ 2 * A := h2 0 (by omega)
      rcases hC2 with ⟨hq, hc⟩ | ⟨hq, hc⟩ | hc | hc
      · have u1 : G ≤ 2 := hGj 1 hq
        have u2 : N * (256 - 2) ≤ 2 * A := h2 1 hq
        clear hF hGj h2
        omega
      · have u1 : G ≤ 16 := hGj 4 hq
        have u2 : N * (256 - 16) ≤ 2 * A := h2 4 hq
        clear hF hGj h2
        omega
      · clear hF hGj h2
        omega
      · clear hF hGj h2
        omega
    · show 4096 * C + (737280 * N2 + 5713920 - 61440 * A2) ≤ 1150976 + F
      have g1 : G ≤ 2 := hGj 1 (by omega)
      have g2 : N * (256 - 2) ≤ 2 * A := h2 1 (by omega)
      rcases hC2 with ⟨hq, hc⟩ | ⟨hq, hc⟩ | hc | hc
      · have u1 : G ≤ 2 := hGj 1 hq
        have u2 : N * (256 - 2) ≤ 2 * A := h2 1 hq
        clear hF hGj h2
        omega
      · have u1 : G ≤ 16 := hGj 4 hq
        have u2 : N * (256 - 16) ≤ 2 * A := h2 4 hq
        clear hF hGj h2
        omega
      · clear hF hGj h2
        omega
      · clear hF hGj h2
        omega
    · show 4096 * C + (675840 * N2 + 5237760 - 30720 * A2) ≤ 1150976 + F
      have f3 : 614400 * N + 4761600 - 15360 * A ≤ F := hF 3 (by omega) (by decide)
      have g1 : G ≤ 4 := hGj 2 (by omega)
      have g2 : N * (256 - 4) ≤ 2 * A := h2 2 (by omega)
      rcases hC2 with ⟨hq, hc⟩ | ⟨hq, hc⟩ | hc | hc
      · have u1 : G ≤ 2 := hGj 1 hq
        have u2 : N * (256 - 2) ≤ 2 * A := h2 1 hq
        clear hF hGj h2
        omega
      · have u1 : G ≤ 16 := hGj 4 hq
        have u2 : N * (256 - 16) ≤ 2 * A := h2 4 hq
        clear hF hGj h2
        omega
      · clear hF hGj h2
        omega
      · clear hF hGj h2
        omega
    · show 4096 * C + (614400 * N2 + 4761600 - 15360 * A2) ≤ 1150976 + F
      have f3 : 614400 * N + 4761600 - 15360 * A ≤ F := hF 3 (by omega) (by decide)
      have f4 : 552960 * N + 4285440 - 7680 * A ≤ F := hF 4 (by omega) (by decide)
      have g1 : G ≤ 8 := hGj 3 (by omega)
      have g2 : N * (256 - 8) ≤ 2 * A := h2 3 (by omega)
      rcases hC2 with ⟨hq, hc⟩ | ⟨hq, hc⟩ | hc | hc
      · have u1 : G ≤ 2 := hGj 1 hq
        have u2 : N * (256 - 2) ≤ 2 * A := h2 1 hq
        clear hF hGj h2
        omega
      · have u1 : G ≤ 16 := hGj 4 hq
        have u2 : N * (256 - 16) ≤ 2 * A := h2 4 hq
        clear hF hGj h2
        omega
      · clear hF hGj h2
        omega
      · clear hF hGj h2
        omega
    · show 4096 * C + (552960 * N2 + 4285440 - 7680 * A2) ≤ 1150976 + F
      have f4 : 552960 * N + 4285440 - 7680 * A ≤ F := hF 4 (by omega) (by decide)
      have f5 : 491520 * N + 3809280 - 3840 * A ≤ F := hF 5 (by omega) (by decide)
      have g1 : G ≤ 16 := hGj 4 (by omega)
      have g2 : N * (256 - 16) ≤ 2 * A := h2 4 (by omega)
      rcases hC2 with ⟨hq, hc⟩ | ⟨hq, hc⟩ | hc | hc
      · have u1 : G ≤ 2 := hGj 1 hq
        have u2 : N * (256 - 2) ≤ 2 * A := h2 1 hq
        clear hF hGj h2
        omega
      · have u1 : G ≤ 16 := hGj 4 hq
        have u2 : N * (256 - 16) ≤ 2 * A := h2 4 hq
        clear hF hGj h2
        omega
      · clear hF hGj h2
        omega
      · clear hF hGj h2
        omega
    · show 4096 * C + (491520 * N2 + 3809280 - 3840 * A2) ≤ 1150976 + F
      have f5 : 491520 * N + 3809280 - 3840 * A ≤ F := hF 5 (by omega) (by decide)
      have f6 : 430080 * N + 3333120 - 1920 * A ≤ F := hF 6 (by omega) (by decide)
      have g1 : G ≤ 32 := hGj 5 (by omega)
      have g2 : N * (256 - 32) ≤ 2 * A := h2 5 (by omega)
      rcases hC2 with ⟨hq, hc⟩ | ⟨hq, hc⟩ | hc | hc
      · have u1 : G ≤ 2 := hGj 1 hq
        have u2 : N * (256 - 2) ≤ 2 * A := h2 1 hq
        clear hF hGj h2
        omega
      · have u1 : G ≤ 16 := hGj 4 hq
        have u2 : N * (256 - 16) ≤ 2 * A := h2 4 hq
        clear hF hGj h2
        omega
      · clear hF hGj h2
        omega
      · clear hF hGj h2
        omega
    · show 4096 * C + (430080 * N2 + 3333120 - 1920 * A2) ≤ 1150976 + F
      have f6 : 430080 * N + 3333120 - 1920 * A ≤ F := hF 6 (by omega) (by decide)
      have f7 : 368640 * N + 2856960 - 960 * A ≤ F := hF 7 (by omega) (by decide)
      have g1 : G ≤ 64 := hGj 6 (by omega)
      have g2 : N * (256 - 64) ≤ 2 * A := h2 6 (by omega)
      rcases hC2 with ⟨hq, hc⟩ | ⟨hq, hc⟩ | hc | hc
      · have u1 : G ≤ 2 := hGj 1 hq
        have u2 : N * (256 - 2) ≤ 2 * A := h2 1 hq
        clear hF hGj h2
        omega
      · have u1 : G ≤ 16 := hGj 4 hq
        have u2 : N * (256 - 16) ≤ 2 * A := h2 4 hq
        clear hF hGj h2
        omega
      · clear hF hGj h2
        omega
      · clear hF hGj h2
        omega
    · show 4096 * C + (368640 * N2 + 2856960 - 960 * A2) ≤ 1150976 + F
      have f7 : 368640 * N + 2856960 - 960 * A ≤ F := hF 7 (by omega) (by decide)
      have g1 : G ≤ 128 := hGj 7 (by omega)
      have g2 : N * (256 - 128) ≤ 2 * A := h2 7 (by omega)
      rcases hC2 with ⟨hq, hc⟩ | ⟨hq, hc⟩ | hc | hc
      · have u1 : G ≤ 2 := hGj 1 hq
        have u2 : N * (256 - 2) ≤ 2 * A := h2 1 hq
        clear hF hGj h2
        omega
      · have u1 : G ≤ 16 := hGj 4 hq
        have u2 : N * (256 - 16) ≤ 2 * A := h2 4 hq
        clear hF hGj h2
        omega
      · clear hF hGj h2
        omega
      · clear hF hGj h2
        omega
    · show 4096 * C + (307200 * N2 + 2380800 - 480 * A2) ≤ 1150976 + F
      have f8 : 307200 * N + 2380800 - 480 * A ≤ F := hF 8 (by omega) (by decide)
      have g1 : G ≤ 128 := hGj 7 (by omega)
      have g2 : N * (256 - 128) ≤ 2 * A := h2 7 (by omega)
      rcases hC2 with ⟨hq, hc⟩ | ⟨hq, hc⟩ | hc | hc
      · have u1 : G ≤ 2 := hGj 1 hq
        have u2 : N * (256 - 2) ≤ 2 * A := h2 1 hq
        clear hF hGj h2
        omega
      · have u1 : G ≤ 16 := hGj 4 hq
        have u2 : N * (256 - 16) ≤ 2 * A := h2 4 hq
        clear hF hGj h2
        omega
      · clear hF hGj h2
        omega
      · clear hF hGj h2
        omega
    · show 4096 * C + (245760 * N2 + 1904640 - 240 * A2) ≤ 1150976 + F
      have f8 : 307200 * N + 2380800 - 480 * A ≤ F := hF 8 (by omega) (by decide)
      have f9 : 245760 * N + 1904640 - 240 * A ≤ F := hF 9 (by omega) (by decide)
      have g1 : G ≤ 128 := hGj 7 (by omega)
      have g2 : N * (256 - 128) ≤ 2 * A := h2 7 (by omega)
      rcases hC2 with ⟨hq, hc⟩ | ⟨hq, hc⟩ | hc | hc
      · have u1 : G ≤ 2 := hGj 1 hq
        have u2 : N * (256 - 2) ≤ 2 * A := h2 1 hq
        clear hF hGj h2
        omega
      · have u1 : G ≤ 16 := hGj 4 hq
        have u2 : N * (256 - 16) ≤ 2 * A := h2 4 hq
        clear hF hGj h2
        omega
      · clear hF hGj h2
        omega
      · clear hF hGj h2
        omega
    · show 4096 * C + (184320 * N2 + 1428480 - 120 * A2) ≤ 1150976 + F
      have f8 : 307200 * N + 2380800 - 480 * A ≤ F := hF 8 (by omega) (by decide)
      have f9 : 245760 * N + 1904640 - 240 * A ≤ F := hF 9 (by omega) (by decide)
      have g1 : G ≤ 128 := hGj 7 (by omega)
      have g2 : N * (256 - 128) ≤ 2 * A := h2 7 (by omega)
      rcases hC2 with ⟨hq, hc⟩ | ⟨hq, hc⟩ | hc | hc
      · have u1 : G ≤ 2 := hGj 1 hq
        have u2 : N * (256 - 2) ≤ 2 * A := h2 1 hq
        clear hF hGj h2
        omega
      · have u1 : G ≤ 16 := hGj 4 hq
        have u2 : N * (256 - 16) ≤ 2 * A := h2 4 hq
        clear hF hGj h2
        omega
      · clear hF hGj h2
        omega
      · clear hF hGj h2
        omega
    · show 4096 * C + (122880 * N2 + 952320 - 60 * A2) ≤ 1150976 + F
      have f9 : 245760 * N + 1904640 - 240 * A ≤ F := hF 9 (by omega) (by decide)
      have g1 : G ≤ 128 := hGj 7 (by omega)
      have g2 : N * (256 - 128) ≤ 2 * A := h2 7 (by omega)
      rcases hC2 with ⟨hq, hc⟩ | ⟨hq, hc⟩ | hc | hc
      · have u1 : G ≤ 2 := hGj 1 hq
        have u2 : N * (256 - 2) ≤ 2 * A := h2 1 hq
        clear hF hGj h2
        omega
      · have u1 : G ≤ 16 := hGj 4 hq
        have u2 : N * (256 - 16) ≤ 2 * A := h2 4 hq
        clear hF hGj h2
        omega
      · clear hF hGj h2
        omega
      · clear hF hGj h2
        omega
    · show 4096 * C + (61440 * N2 + 476160 - 30 * A2) ≤ 1150976 + F
      have f10 : 184320 * N + 1428480 - 120 * A ≤ F := hF 10 (by omega) (by decide)
      have g1 : G ≤ 128 := hGj 7 (by omega)
      have g2 : N * (256 - 128) ≤ 2 * A := h2 7 (by omega)
      rcases hC2 with ⟨hq, hc⟩ | ⟨hq, hc⟩ | hc | hc
      · have u1 : G ≤ 2 := hGj 1 hq
        have u2 : N * (256 - 2) ≤ 2 * A := h2 1 hq
        clear hF hGj h2
        omega
      · have u1 : G ≤ 16 := hGj 4 hq
        have u2 : N * (256 - 16) ≤ 2 * A := h2 4 hq
        clear hF hGj h2
        omega
      · clear hF hGj h2
        omega
      · clear hF hGj h2
        omega
  ·
    have f8 : 307200 * N + 2380800 - 480 * A ≤ F := hF 8 (by omega) (by decide)
    have g1 : G ≤ 128 := hGj 7 (by omega)
    have g2 : N * (256 - 128) ≤ 2 * A := h2 7 (by omega)
    rcases hC2 with ⟨hq, hc⟩ | ⟨hq, hc⟩ | hc | hc
    · have u1 : G ≤ 2 := hGj 1 hq
      have u2 : N * (256 - 2) ≤ 2 * A := h2 1 hq
      clear hF hGj h2
      omega
    · have u1 : G ≤ 16 := hGj 4 hq
      have u2 : N * (256 - 16) ≤ 2 * A := h2 4 hq
      clear hF hGj h2
      omega
    · clear hF hGj h2
      omega
    · clear hF hGj h2
      omega
theorem qs_x9 {g : Nat} {A N E z C F A2 N2 G : Int} (hF0 : 0 ≤ F) (hF : ∀ i : Nat, g ≤ i → i < 13 → qs_l i A N ≤ F) (hN : 1 ≤ N) (hN1 : N = 1 → 512 ≤ A) (hz : 0 ≤ z) (hE : 0 ≤ E) (h1 : A ≤ N * 512) (h3 : z * 512 ≤ 65536) (h4 : z * 512 ≤ 2 * E + G) (hC : C ≤ 529) (hm : (A2 = A + E ∧ N2 = N + 1) ∨ (3 ≤ N ∧ A + E - G ≤ 2 * A2 ∧ 2 * N2 ≤ N + 2)) (hg : g ≤ 8) (hG : 1 ≤ G ∧ G ≤ 256) (hGj : ∀ j : Nat, g ≤ j → G ≤ 2 ^ j) (h2 : ∀ j : Nat, g ≤ j → N * (512 - 2 ^ j) ≤ 2 * A) (hC2 : (g ≤ 1 ∧ C ≤ 8 * z + 98) ∨ (g ≤ 4 ∧ C ≤ 8 * z + 80) ∨ C ≤ 8 * z + 53 ∨ (g = 0 ∧ G = 1 ∧ 31 ≤ z ∧ C ≤ 8 * z + 161) ∨ (1 ≤ g ∧ 13 ≤ z ∧ C ≤ 8 * z + 152)) : (∀ j : Nat, g ≤ j → j < 13 → 4096 * C + qs_l j A2 N2 ≤ 1150976 + F) ∧ 4096 * C ≤ 1150976 + F := by
  constructor
  · intro j hj1 hj2
    have hjs : j = 0 ∨ j = 1 ∨ j = 2 ∨ j = 3 ∨ j = 4 ∨ j = 5 ∨ j = 6 ∨ j = 7 ∨ j = 8 ∨ j = 9 ∨ j = 10 ∨ j = 11 ∨ j = 12 := by omega
    rcases hjs with rfl | rfl | rfl | rfl | rfl | rfl | rfl | rfl | rfl | rfl | rfl | rfl | rfl
    · show 4096 * C + (798720 * N2 + 6190080 - 122880 * A2) ≤ 1150976 + F
      have g1 : G ≤ 1 := hGj 0 (by omega)
      have g2 : N * (512 - 1) ≤ 2 * A := h2 0 (by omega)
      rcases hC2 with ⟨hq, hc⟩ | ⟨hq, hc⟩ | hc | hc
      · have u1 : G ≤ 2 := hGj 1 hq
        have u2 : N * (512 - 2) ≤ 2 * A := h2 1 hq
        clear hF hGj h2
        omega
      · have u1 : G ≤ 16 := hGj 4 hq
        have u2 : N * (512 - 16) ≤ 2 * A := h2 4 hq
        clear hF hGj h2
        omega
      · clear hF hGj h2
        omega
      · clear hF hGj h2
        omega
    · show 4096 * C + (737280 * N2 + 5713920 - 61440 * A2) ≤ 1150976 + F
      have g1 : G ≤ 2 := hGj 1 (by omega)
      have g2 : N * (512 - 2) ≤ 2 * A := h2 1 (by omega)
      rcases hC2 with ⟨hq, hc⟩ | ⟨hq, hc⟩ | hc | hc
      · have u1 : G ≤ 2 := hGj 1 hq
        have u2 : N * (512 - 2) ≤ 2 * A := h2 1 hq
        clear hF hGj h2
        omega
      · have u1 : G ≤ 16 := hGj 4 hq
        have u2 : N * (512 - 16) ≤ 2 * A := h2 4 hq
        clear hF hGj h2
        omega
      · clear hF hGj h2
        omega
      · clear hF hGj h2
        omega
    · show 4096 * C + (675840 * N2 + 5237760 - 30720 * A2) ≤ 1150976 + F
      have g1 : G ≤ 4 := hGj 2 (by omega)
      have g2 : N * (512 - 4) ≤ 2 * A := h2 2 (by omega)
      rcases hC2 with ⟨hq, hc⟩ | ⟨hq, hc⟩ | hc | hc
      · have u1 : G ≤ 2 := hGj 1 hq
        have u2 : N * (512 - 2) ≤ 2 * A := h2 1 hq
        clear hF hGj h2
        omega
      · have u1 : G ≤ 16 := hGj 4 hq
        have u2 : N * (512 - 16) ≤ 2 * A := h2 4 hq
        clear hF hGj h2
        omega
      · clear hF hGj h2
        omega
      · clear hF hGj h2
        omega
    · show 4096 * C + (614400 * N2 + 4761600 - 15360 * A2) ≤ 1150976 + F
      have g1 : G ≤ 8 := hGj 3 (by omega)
      have g2 : N * (512 - 8) ≤ 2 * A := h2 3 (by omega)
      rcases hC2 with ⟨hq, hc⟩ | ⟨hq, hc⟩ | hc | hc
      · have u1 : G ≤ 2 := hGj 1 hq
        have u2 : N * (512 - 2) ≤ 2 * A := h2 1 hq
        clear hF hGj h2
        omega
      · have u1 : G ≤ 16 := hGj 4 hq
        have u2 : N * (512 - 16) ≤ 2 * A := h2 4 hq
        clear hF hGj h2
        omega
      · clear hF hGj h2
        omega
      · clear hF hGj h2
        omega
    · show 4096 * C + (552960 * N2 + 4285440 - 7680 * A2) ≤ 1150976 + F
      have f4 : 552960 * N + 4285440 - 7680 * A ≤ F := hF 4 (by omega) (by decide)
      have f5 : 491520 * N + 3809280 - 3840 * A ≤ F := hF 5 (by omega) (by decide)
      have g1 : G ≤ 16 := hGj 4 (by omega)
      have g2 : N * (512 - 16) ≤ 2 * A := h2 4 (by omega)
      rcases hC2 with ⟨hq, hc⟩ | ⟨hq, hc⟩ | hc | hc
      · have u1 : G ≤ 2 := hGj 1 hq
        have u2 : N * (512 - 2) ≤ 2 * A := h2 1 hq
        clear hF hGj h2
        omega
      · have u1 : G ≤ 16 := hGj 4 hq
        have u2 : N * (512 - 16) ≤ 2 * A := h2 4 hq
        clear hF hGj h2
        omega
      · clear hF hGj h2
        omega
      · clear hF hGj h2
        omega
    · show 4096 * C + (491520 * N2 + 3809280 - 3840 * A2) ≤ 1150976 + F
      have f5 : 491520 * N + 3809280 - 3840 * A ≤ F := hF 5 (by omega) (by decide)
      have f6 : 430080 * N + 3333120 - 1920 * A ≤ F := hF 6 (by omega) (by decide)
      have g1 : G ≤ 32 := hGj 5 (by omega)
      have g2 : N * (512 - 32) ≤ 2 * A := h2 5 (by omega)
      rcases hC2 with ⟨hq, hc⟩ | ⟨hq, hc⟩ | hc | hc
      · have u1 : G ≤ 2 := hGj 1 hq
        have u2 : N * (512 - 2) ≤ 2 * A := h2 1 hq
        clear hF hGj h2
        omega
      · have u1 : G ≤ 16 := hGj 4 hq
        have u2 : N * (512 - 16) ≤ 2 * A := h2 4 hq
        clear hF hGj h2
        omega
      · clear hF hGj h2
        omega
      · clear hF hGj h2
        omega
    · show 4096 * C + (430080 * N2 + 3333120 - 1920 * A2) ≤ 1150976 + F
      have f6 : 430080 * N + 3333120 - 1920 * A ≤ F := hF 6 (by omega) (by decide)
      have f7 : 368640 * N + 2856960 - 960 * A ≤ F := hF 7 (by omega) (by decide)
      have g1 : G ≤ 64 := hGj 6 (by omega)
      have g2 : N * (512 - 64) ≤ 2 * A := h2 6 (by omega)
      rcases hC2 with ⟨hq, hc⟩ | ⟨hq, hc⟩ | hc | hc
      · have u1 : G ≤ 2 := hGj 1 hq
        have u2 : N * (512 - 2) ≤ 2 * A := h2 1 hq
        clear hF hGj h2
        omega
      · have u1 : G ≤ 16 := hGj 4 hq
        have u2 : N * (512 - 16) ≤ 2 * A := h2 4 hq
        clear hF hGj h2
        omega
      · clear hF hGj h2
        omega
      · clear hF hGj h2
        omega
    · show 4096 * C + (368640 * N2 + 2856960 - 960 * A2) ≤ 1150976 + F
      have f7 : 368640 * N + 2856960 - 960 * A ≤ F := hF 7 (by omega) (by decide)
      have f8 : 307200 * N + 2380800 - 480 * A ≤ F := hF 8 (by omega) (by decide)
      have g1 : G ≤ 128 := hGj 7 (by omega)
      have g2 : N * (512 - 128) ≤ 2 * A := h2 7 (by omega)
      rcases hC2 with ⟨hq, hc⟩ | ⟨hq, hc⟩ | hc | hc
      · have u1 : G ≤ 2 := hGj 1 hq
        have u2 : N * (512 - 2) ≤ 2 * A := h2 1 hq
        clear hF hGj h2
        omega
      · have u1 : G ≤ 16 := hGj 4 hq
        have u2 : N * (512 - 16) ≤ 2 * A := h2 4 hq
        clear hF hGj h2
        omega
      · clear hF hGj h2
        omega
      · clear hF hGj h2
        omega
    · show 4096 * C + (307200 * N2 + 2380800 - 480 * A2) ≤ 1150976 + F
      have f8 : 307200 * N + 2380800 - 480 * A ≤ F := hF 8 (by omega) (by decide)
      have g1 : G ≤ 256 := hGj 8 (by omega)
      have g2 : N * (512 - 256) ≤ 2 * A := h2 8 (by omega)
      rcases hC2 with ⟨hq, hc⟩ | ⟨hq, hc⟩ | hc | hc
      · have u1 : G ≤ 2 := hGj 1 hq
        have u2 : N * (512 - 2) ≤ 2 * A := h2 1 hq
        clear hF hGj h2
        omega
      · have u1 : G ≤ 16 := hGj 4 hq
        have u2 : N * (512 - 16) ≤ 2 * A := h2 4 hq
        clear hF hGj h2
        omega
      · clear hF hGj h2
        omega
      · clear hF hGj h2
        omega
    · show 4096 * C + (245760 * N2 + 1904640 - 240 * A2) ≤ 1150976 + F
      have f9 : 245760 * N + 1904640 - 240 * A ≤ F := hF 9 (by omega) (by decide)
      have g1 : G ≤ 256 := hGj 8 (by omega)
      have g2 : N * (512 - 256) ≤ 2 * A := h2 8 (by omega)
      rcases hC2 with ⟨hq, hc⟩ | ⟨hq, hc⟩ | hc | hc
      · have u1 : G ≤ 2 := hGj 1 hq
        have u2 : N * (512 - 2) ≤ 2 * A := h2 1 hq
        clear hF hGj h2
        omega
      · have u1 : G ≤ 16 := hGj 4 hq
        have u2 : N * (512 - 16) ≤ 2 * A := h2 4 hq
        clear hF hGj h2
        omega
      · clear hF hGj h2
        omega
      · clear hF hGj h2
        omega
    · show 4096 * C + (184320 * N2 + 1428480 - 120 * A2) ≤ 1150976 + F
      have f9 : 245760 * N + 1904640 - 240 * A ≤ F := hF 9 (by omega) (by decide)
      have f10 : 184320 * N + 1428480 - 120 * A ≤ F := hF 10 (by omega) (by decide)
      have g1 : G ≤ 256 := hGj 8 (by omega)
      have g2 : N * (512 - 256) ≤ 2 * A := h2 8 (by omega)
      rcases hC2 with ⟨hq, hc⟩ | ⟨hq, hc⟩ | hc | hc
      · have u1 : G ≤ 2 := hGj 1 hq
        have u2 : N * (512 - 2) ≤ 2 * A := h2 1 hq
        clear hF hGj h2
        omega
      · have u1 : G ≤ 16 := hGj 4 hq
        have u2 : N * (512 - 16) ≤ 2 * A := h2 4 hq
        clear hF hGj h2
        omega
      · clear hF hGj h2
        omega
      · clear hF hGj h2
        omega
    · show 4096 * C + (122880 * N2 + 952320 - 60 * A2) ≤ 1150976 + F
      have f9 : 245760 * N + 1904640 - 240 * A ≤ F := hF 9 (by omega) (by decide)
      have f10 : 184320 * N + 1428480 - 120 * A ≤ F := hF 10 (by omega) (by decide)
      have g1 : G ≤ 256 := hGj 8 (by omega)
      have g2 : N * (512 - 256) ≤ 2 * A := h2 8 (by omega)
      rcases hC2 with ⟨hq, hc⟩ | ⟨hq, hc⟩ | hc | hc
      · have u1 : G ≤ 2 := hGj 1 hq
        have u2 : N * (512 - 2) ≤ 2 * A := h2 1 hq
        clear hF hGj h2
        omega
      · have u1 : G ≤ 16 := hGj 4 hq
        have u2 : N * (512 - 16) ≤ 2 * A := h2 4 hq
        clear hF hGj h2
        omega
      · clear hF hGj h2
        omega
      · clear hF hGj h2
        omega
    · show 4096 * C + (61440 * N2 + 476160 - 30 * A2) ≤ 1150976 + F
      have f10 : 184320 * N + 1428480 - 120 * A ≤ F := hF 10 (by omega) (by decide)
      have g1 : G ≤ 256 := hGj 8 (by omega)
      have g2 : N * (512 - 256) ≤ 2 * A := h2 8 (by omega)
      rcases hC2 with ⟨hq, hc⟩ | ⟨hq, hc⟩ | hc | hc
      · have u1 : G ≤ 2 := hGj 1 hq
        have u2 : N * (512 - 2) ≤ 2 * A := h2 1 hq
        clear hF hGj h2
        omega
      · have u1 : G ≤ 16 := hGj 4 hq
        have u2 : N * (512 - 16) ≤ 2 * A := h2 4 hq
        clear hF hGj h2
        omega
      · clear hF hGj h2
        omega
      · clear hF hGj h2
        omega
  ·
    have f9 : 245760 * N + 1904640 - 240 * A ≤ F := hF 9 (by omega) (by decide)
    have g1 : G ≤ 256 := hGj 8 (by omega)
    have g2 : N * (512 - 256) ≤ 2 * A := h2 8 (by omega)
    rcases hC2 with ⟨hq, hc⟩ | ⟨hq, hc⟩ | hc | hc
    · have u1 : G ≤ 2 := hGj 1 hq
      have u2 : N * (512 - 2) ≤ 2 * A := h2 1 hq
      clear hF hGj h2
      omega
    · have u1 : G ≤ 16 := hGj 4 hq
      have u2 : N * (512 - 16) ≤ 2 * A := h2 4 hq
      clear hF hGj h2
      omega
    · clear hF hGj h2
      omega
    · clear hF hGj h2
      omega
theorem qs_x10 {g : Nat} {A N E z C F A2 N2 G : Int} (hF0 : 0 ≤ F) (hF : ∀ i : Nat, g ≤ i → i < 13 → qs_l i A N ≤ F) (hN : 1 ≤ N) (hN1 : N = 1 → 512 ≤ A) (hz : 0 ≤ z) (hE : 0 ≤ E) (h1 : A ≤ N * 1024) (h3 : z * 1024 ≤ 65536) (h4 : z * 1024 ≤ 2 * E + G) (hC : C ≤ 529) (hm : (A2 = A + E ∧ N2 = N + 1) ∨ (3 ≤ N ∧ A + E - G ≤ 2 * A2 ∧ 2 * N2 ≤ N + 2)) (hg : g ≤ 9) (hG : 1 ≤ G ∧ G ≤ 512) (hGj : ∀ j : Nat, g ≤ j → G ≤ 2 ^ j) (h2 : ∀ j : Nat, g ≤ j → N * (1024 - 2 ^ j) ≤ 2 * A) (hC2 : (g ≤ 1 ∧ C ≤ 8 * z + 107) ∨ (g ≤ 4 ∧ C ≤ 8 * z + 89) ∨ C ≤ 8 * z + 62 ∨ (g = 0 ∧ G = 1 ∧ 31 ≤ z ∧ C ≤ 8 * z + 161) ∨ (1 ≤ g ∧ 13 ≤ z ∧ C ≤ 8 * z + 152)) : (∀ j : Nat, g ≤ j → j < 13 → 4096 * C + qs_l j A2 N2 ≤ 1150976 + F) ∧ 4096 * C ≤ 1150976 + F := by
  constructor
  · intro j hj1 hj2
    have hjs : j = 0 ∨ j = 1 ∨ j = 2 ∨ j = 3 ∨ j = 4 ∨ j = 5 ∨ j = 6 ∨ j = 7 ∨ j = 8 ∨ j = 9 ∨ j = 10 ∨ j = 11 ∨ j = 12 := by omega
    rcases hjs with rfl | rfl | rfl | rfl | rfl | rfl | rfl | rfl | rfl | rfl | rfl | rfl | rfl
    · show 4096 * C + (798720 * N2 + 6190080 - 122880 * A2) ≤ 1150976 + F
      have g1 : G ≤ 1 := hGj 0 (by omega)
      have g2 : N * (1024 - 1) ≤ 2 * A := h2 0 (by omega)
      rcases hC2 with ⟨hq, hc⟩ | ⟨hq, hc⟩ | hc | hc
      · have u1 : G ≤ 2 := hGj 1 hq
        have u2 : N * (1024 - 2) ≤ 2 * A := h2 1 hq
        clear hF hGj h2
        omega
      · have u1 : G ≤ 16 := hGj 4 hq
        have u2 : N * (1024 - 16) ≤ 2 * A := h2 4 hq
        clear hF hGj h2
        omega
      · clear hF hGj h2
        omega
      · clear hF hGj h2
        omega
    · show 4096 * C + (737280 * N2 + 5713920 - 61440 * A2) ≤ 1150976 + F
      have g1 : G ≤ 2 := hGj 1 (by omega)
      have g2 : N * (1024 - 2) ≤ 2 * A := h2 1 (by omega)
      rcases hC2 with ⟨hq, hc⟩ | ⟨hq, hc⟩ | hc | hc
      · have u1 : G ≤ 2 := hGj 1 hq
        have u2 : N * (1024 - 2) ≤ 2 * A := h2 1 hq
        clear hF hGj h2
        omega
      · have u1 : G ≤ 16 := hGj 4 hq
        have u2 : N * (1024 - 16) ≤ 2 * A := h2 4 hq
        clear hF hGj h2
        omega
      · clear hF hGj h2
        omega
      · clear hF hGj h2
        omega
    · show 4096 * C + (675840 * N2 + 5237760 - 30720 * A2) ≤ 1150976 + F
      have g1 : G ≤ 4 := hGj 2 (by omega)
      have g2 : N * (1024 - 4) ≤ 2 * A := h2 2 (by omega)
      rcases hC2 with ⟨hq, hc⟩ | ⟨hq, hc⟩ | hc | hc
      · have u1 : G ≤ 2 := hGj 1 hq
        have u2 : N * (1024 - 2) ≤ 2 * A := h2 1 hq
        clear hF hGj h2
        omega
      · have u1 : G ≤ 16 := hGj 4 hq
        have u2 : N * (1024 - 16) ≤ 2 * A := h2 4 hq
        clear hF hGj h2
        omega
      · clear hF hGj h2
        omega
      · clear hF hGj h2
        omega
    · show 4096 * C + (614400 * N2 + 4761600 - 15360 * A2) ≤ 1150976 + F
      have g1 : G ≤ 8 := hGj 3 (by omega)
      have g2 : N * (1024 - 8) ≤ 2 * A := h2 3 (by omega)
      rcases hC2 with ⟨hq, hc⟩ | ⟨hq, hc⟩ | hc | hc
      · have u1 : G ≤ 2 := hGj 1 hq
        have u2 : N * (1024 - 2) ≤ 2 * A := h2 1 hq
        clear hF hGj h2
        omega
      · have u1 : G ≤ 16 := hGj 4 hq
        have u2 : N * (1024 - 16) ≤ 2 * A := h2 4 hq
        clear hF hGj h2
        omega
      · clear hF hGj h2
        omega
      · clear hF hGj h2
        omega
    · show 4096 * C + (552960 * N2 + 4285440 - 7680 * A2) ≤ 1150976 + F
      have f4 : 552960 * N + 4285440 - 7680 * A ≤ F := hF 4 (by omega) (by decide)
      have g1 : G ≤ 16 := hGj 4 (by omega)
      have g2 : N * (1024 - 16) ≤ 2 * A := h2 4 (by omega)
      rcases hC2 with ⟨hq, hc⟩ | ⟨hq, hc⟩ | hc | hc
      · have u1 : G ≤ 2 := hGj 1 hq
        have u2 : N * (1024 - 2) ≤ 2 * A := h2 1 hq
        clear hF hGj h2
        omega
      · have u1 : G ≤ 16 := hGj 4 hq
        have u2 : N * (1024 - 16) ≤ 2 * A := h2 4 hq
        clear hF hGj h2
        omega
      · clear hF hGj h2
        omega
      · clear hF hGj h2
        omega
    · show 4096 * C + (491520 * N2 + 3809280 - 3840 * A2) ≤ 1150976 + F
      have f5 : 491520 * N + 3809280 - 3840 * A ≤ F := hF 5 (by omega) (by decide)
      have f6 : 430080 * N + 3333120 - 1920 * A ≤ F := hF 6 (by omega) (by decide)
      have g1 : G ≤ 32 := hGj 5 (by omega)
      have g2 : N * (1024 - 32) ≤ 2 * A := h2 5 (by omega)
      rcases hC2 with ⟨hq, hc⟩ | ⟨hq, hc⟩ | hc | hc
      · have u1 : G ≤ 2 := hGj 1 hq
        have u2 : N * (1024 - 2) ≤ 2 * A := h2 1 hq
        clear hF hGj h2
        omega
      · have u1 : G ≤ 16 := hGj 4 hq
        have u2 : N * (1024 - 16) ≤ 2 * A := h2 4 hq
        clear hF hGj h2
        omega
      · clear hF hGj h2
        omega
      · clear hF hGj h2
        omega
    · show 4096 * C + (430080 * N2 + 3333120 - 1920 * A2) ≤ 1150976 + F
      have f6 : 430080 * N + 3333120 - 1920 * A ≤ F := hF 6 (by omega) (by decide)
      have f7 : 368640 * N + 2856960 - 960 * A ≤ F := hF 7 (by omega) (by decide)
      have g1 : G ≤ 64 := hGj 6 (by omega)
      have g2 : N * (1024 - 64) ≤ 2 * A := h2 6 (by omega)
      rcases hC2 with ⟨hq, hc⟩ | ⟨hq, hc⟩ | hc | hc
      · have u1 : G ≤ 2 := hGj 1 hq
        have u2 : N * (1024 - 2) ≤ 2 * A := h2 1 hq
        clear hF hGj h2
        omega
      · have u1 : G ≤ 16 := hGj 4 hq
        have u2 : N * (1024 - 16) ≤ 2 * A := h2 4 hq
        clear hF hGj h2
        omega
      · clear hF hGj h2
        omega
      · clear hF hGj h2
        omega
    · show 4096 * C + (368640 * N2 + 2856960 - 960 * A2) ≤ 1150976 + F
      have f7 : 368640 * N + 2856960 - 960 * A ≤ F := hF 7 (by omega) (by decide)
      have f8 : 307200 * N + 2380800 - 480 * A ≤ F := hF 8 (by omega) (by decide)
      have g1 : G ≤ 128 := hGj 7 (by omega)
      have g2 : N * (1024 - 128) ≤ 2 * A := h2 7 (by omega)
      rcases hC2 with ⟨hq, hc⟩ | ⟨hq, hc⟩ | hc | hc
      · have u1 : G ≤ 2 := hGj 1 hq
        have u2 : N * (1024 - 2) ≤ 2 * A := h2 1 hq
        clear hF hGj h2
        omega
      · have u1 : G ≤ 16 := hGj 4 hq
        have u2 : N * (1024 - 16) ≤ 2 * A := h2 4 hq
        clear hF hGj h2
        omega
      · clear hF hGj h2
        omega
      · clear hF hGj h2
        omega
    · show 4096 * C + (307200 * N2 + 2380800 - 480 * A2) ≤ 1150976 + F
      have f8 : 307200 * N + 2380800 - 480 * A ≤ F := hF 8 (by omega) (by decide)
      have f9 : 245760 * N + 1904640 - 240 * A ≤ F := hF 9 (by omega) (by decide)
      have g1 : G ≤ 256 := hGj 8 (by omega)
      have g2 : N * (1024 - 256) ≤ 2 * A := h2 8 (by omega)
      rcases hC2 with ⟨hq, hc⟩ | ⟨hq, hc⟩ | hc | hc
      · have u1 : G ≤ 2 := hGj 1 hq
        have u2 : N * (1024 - 2) ≤ 2 * A := h2 1 hq
        clear hF hGj h2
        omega
      · have u1 : G ≤ 16 := hGj 4 hq
        have u2 : N * (1024 - 16) ≤ 2 * A := h2 4 hq
        clear hF hGj h2
        omega
      · clear hF hGj h2
        omega
      · clear hF hGj h2
        omega
    · show 4096 * C + (245760 * N2 + 1904640 - 240 * A2) ≤ 1150976 + F
      have f9 : 245760 * N + 1904640 - 240 * A ≤ F := hF 9 (by omega) (by decide)
      have g1 : G ≤ 512 := hGj 9 (by omega)
      have g2 : N * (1024 - 512) ≤ 2 * A := h2 9 (by omega)
      rcases hC2 with ⟨hq, hc⟩ | ⟨hq, hc⟩ | hc | hc
      · have u1 : G ≤ 2 := hGj 1 hq
        have u2 : N * (1024 - 2) ≤ 2 * A := h2 1 hq
        clear hF hGj h2
        omega
      · have u1 : G ≤ 16 := hGj 4 hq
        have u2 : N * (1024 - 16) ≤ 2 * A := h2 4 hq
        clear hF hGj h2
        omega
      · clear hF hGj h2
        omega
      · clear hF hGj h2
        omega
    · show 4096 * C + (184320 * N2 + 1428480 - 120 * A2) ≤ 1150976 + F
      have f10 : 184320 * N + 1428480 - 120 * A ≤ F := hF 10 (by omega) (by decide)
      have g1 : G ≤ 512 := hGj 9 (by omega)
      have g2 : N * (1024 - 512) ≤ 2 * A := h2 9 (by omega)
      rcases hC2 with ⟨hq, hc⟩ | ⟨hq, hc⟩ | hc | hc
      · have u1 : G ≤ 2 := hGj 1 hq
        have u2 : N * (1024 - 2) ≤ 2 * A := h2 1 hq
        clear hF hGj h2
        omega
      · have u1 : G ≤ 16 := hGj 4 hq
        have u2 : N * (1024 - 16) ≤ 2 * A := h2 4 hq
        clear hF hGj h2
        omega
      · clear hF hGj h2
        omega
      · clear hF hGj h2
        omega
    · show 4096 * C + (122880 * N2 + 952320 - 60 * A2) ≤ 1150976 + F
      have f10 : 184320 * N + 1428480 - 120 * A ≤ F := hF 10 (by omega) (by decide)
      have f11 : 122880 * N + 952320 - 60 * A ≤ F := hF 11 (by omega) (by decide)
      have g1 : G ≤ 512 := hGj 9 (by omega)
      have g2 : N * (1024 - 512) ≤ 2 * A := h2 9 (by omega)
      rcases hC2 with ⟨hq, hc⟩ | ⟨hq, hc⟩ | hc | hc
      · have u1 : G ≤ 2 := hGj 1 hq
        have u2 : N * (1024 - 2) ≤ 2 * A := h2 1 hq
        clear hF hGj h2
        omega
      · have u1 : G ≤ 16 := hGj 4 hq
        have u2 : N * (1024 - 16) ≤ 2 * A := h2 4 hq
        clear hF hGj h2
        omega
      · clear hF hGj h2
        omega
      · clear hF hGj h2
        omega
    · show 4096 * C + (61440 * N2 + 476160 - 30 * A2) ≤ 1150976 + F
      have f10 : 184320 * N + 1428480 - 120 * A ≤ F := hF 10 (by omega) (by decide)
      have f11 : 122880 * N + 952320 - 60 * A ≤ F := hF 11 (by omega) (by decide)
      have g1 : G ≤ 512 := hGj 9 (by omega)
      have g2 : N * (1024 - 512) ≤ 2 * A := h2 9 (by omega)
      rcases hC2 with ⟨hq, hc⟩ | ⟨hq, hc⟩ | hc | hc
      · have u1 : G ≤ 2 := hGj 1 hq
        have u2 : N * (1024 - 2) ≤ 2 * A := h2 1 hq
        clear hF hGj h2
        omega
      · have u1 : G ≤ 16 := hGj 4 hq
        have u2 : N * (1024 - 16) ≤ 2 * A := h2 4 hq
        clear hF hGj h2
        omega
      · clear hF hGj h2
        omega
      · clear hF hGj h2
        omega
  ·
    have f10 : 184320 * N + 1428480 - 120 * A ≤ F := hF 10 (by omega) (by decide)
    have g1 : G ≤ 512 := hGj 9 (by omega)
    have g2 : N * (1024 - 512) ≤ 2 * A := h2 9 (by omega)
    rcases hC2 with ⟨hq, hc⟩ | ⟨hq, hc⟩ | hc | hc
    · have u1 : G ≤ 2 := hGj 1 hq
      have u2 : N * (1024 - 2) ≤ 2 * A := h2 1 hq
      clear hF hGj h2
      omega
    · have u1 : G ≤ 16 := hGj 4 hq
      have u2 : N * (1024 - 16) ≤ 2 * A := h2 4 hq
      clear hF hGj h2
      omega
    · clear hF hGj h2
      omega
    · clear hF hGj h2
      omega
theorem qs_x11 {g : Nat} {A N E z C F A2 N2 G : Int} (hF0 : 0 ≤ F) (hF : ∀ i : Nat, g ≤ i → i < 13 → qs_l i A N ≤ F) (hN : 1 ≤ N) (hN1 : N = 1 → 512 ≤ A) (hz : 0 ≤ z) (hE : 0 ≤ E) (h1 : A ≤ N * 2048) (h3 : z * 2048 ≤ 65536) (h4 : z * 2048 ≤ 2 * E + G) (hC : C ≤ 529) (hm : (A2 = A + E ∧ N2 = N + 1) ∨ (3 ≤ N ∧ A + E - G ≤ 2 * A2 ∧ 2 * N2 ≤ N + 2)) (hg : g ≤ 10) (hG : 1 ≤ G ∧ G ≤ 1024) (hGj : ∀ j : Nat, g ≤ j → G ≤ 2 ^ j) (h2 : ∀ j : Nat, g ≤ j → N * (2048 - 2 ^ j) ≤ 2 * A) (hC2 : (g ≤ 1 ∧ C ≤ 8 * z + 116) ∨ (g ≤ 4 ∧ C ≤ 8 * z + 98) ∨ C ≤ 8 * z + 71 ∨ (g = 0 ∧ G = 1 ∧ 31 ≤ z ∧ C ≤ 8 * z + 161) ∨ (1 ≤ g ∧ 13 ≤ z ∧ C ≤ 8 * z + 152)) : (∀ j : Nat, g ≤ j → j < 13 → 4096 * C + qs_l j A2 N2 ≤ 1150976 + F) ∧ 4096 * C ≤ 1150976 + F := by
  constructor
  · intro j hj1 hj2
    have hjs : j = 0 ∨ j = 1 ∨ j = 2 ∨ j = 3 ∨ j = 4 ∨ j = 5 ∨ j = 6 ∨ j = 7 ∨ j = 8 ∨ j = 9 ∨ j = 10 ∨ j = 11 ∨ j = 12 := by omega
    rcases hjs with rfl | rfl | rfl | rfl | rfl | rfl | rfl | rfl | rfl | rfl | rfl | rfl | rfl
    · show 4096 * C + (798720 * N2 + 6190080 - 122880 * A2) ≤ 1150976 + F
      have g1 : G ≤ 1 := hGj 0 (by omega)
      have g2 : N * (2048 - 1) ≤ 2 * A := h2 0 (by omega)
      rcases hC2 with ⟨hq, hc⟩ | ⟨hq, hc⟩ | hc | hc
      · have u1 : G ≤ 2 := hGj 1 hq
        have u2 : N * (2048 - 2) ≤ 2 * A := h2 1 hq
        clear hF hGj h2
        omega
      · have u1 : G ≤ 16 := hGj 4 hq
        have u2 : N * (2048 - 16) ≤ 2 * A := h2 4 hq
        clear hF hGj h2
        omega
      · clear hF hGj h2
        omega
      · clear hF hGj h2
        omega
    · show 4096 * C + (737280 * N2 + 5713920 - 61440 * A2) ≤ 1150976 + F
      have g1 : G ≤ 2 := hGj 1 (by omega)
      have g2 : N * (2048 - 2) ≤ 2 * A := h2 1 (by omega)
      rcases hC2 with ⟨hq, hc⟩ | ⟨hq, hc⟩ | hc | hc
      · have u1 : G ≤ 2 := hGj 1 hq
        have u2 : N * (2048 - 2) ≤ 2 * A := h2 1 hq
        clear hF hGj h2
        omega
      · have u1 : G ≤ 16 := hGj 4 hq
        have u2 : N * (2048 - 16) ≤ 2 * A := h2 4 hq
        clear hF hGj h2
        omega
      · clear hF hGj h2
        omega
      · clear hF hGj h2
        omega
    · show 4096 * C + (675840 * N2 + 5237760 - 30720 * A2) ≤ 1150976 + F
      have g1 : G ≤ 4 := hGj 2 (by omega)
      have g2 : N * (2048 - 4) ≤ 2 * A := h2 2 (by omega)
      rcases hC2 with ⟨hq, hc⟩ | ⟨hq, hc⟩ | hc | hc
      · have u1 : G ≤ 2 := hGj 1 hq
        have u2 : N * (2048 - 2) ≤ 2 * A := h2 1 hq
        clear hF hGj h2
        omega
      · have u1 : G ≤ 16 := hGj 4 hq
        have u2 : N * (2048 - 16) ≤ 2 * A := h2 4 hq
        clear hF hGj h2
        omega
      · clear hF hGj h2
        omega
      · clear hF hGj h2
        omega
    · show 4096 * C + (614400 * N2 + 4761600 - 15360 * A2) ≤ 1150976 + F
      have g1 : G ≤ 8 := hGj 3 (by omega)
      have g2 : N * (2048 - 8) ≤ 2 * A := h2 3 (by omega)
      rcases hC2 with ⟨hq, hc⟩ | ⟨hq, hc⟩ | hc | hc
      · have u1 : G ≤ 2 := hGj 1 hq
        have u2 : N * (2048 - 2) ≤ 2 * A := h2 1 hq
        clear hF hGj h2
        omega
      · have u1 : G ≤ 16 := hGj 4 hq
        have u2 : N * (2048 - 16) ≤ 2 * A := h2 4 hq
        clear hF hGj h2
        omega
      · clear hF hGj h2
        omega
      · clear hF hGj h2
        omega
    · show 4096 * C + (552960 * N2 + 4285440 - 7680 * A2) ≤ 1150976 + F
      have g1 : G ≤ 16 := hGj 4 (by omega)
      have g2 : N * (2048 - 16) ≤ 2 * A := h2 4 (by omega)
      rcases hC2 with ⟨hq, hc⟩ | ⟨hq, hc⟩ | hc | hc
      · have u1 : G ≤ 2 := hGj 1 hq
        have u2 : N * (2048 - 2) ≤ 2 * A := h2 1 hq
        clear hF hGj h2
        omega
      · have u1 : G ≤ 16 := hGj 4 hq
        have u2 : N * (2048 - 16) ≤ 2 * A := h2 4 hq
        clear hF hGj h2
        omega
      · clear hF hGj h2
        omega
      · clear hF hGj h2
        omega
    · show 4096 * C + (491520 * N2 + 3809280 - 3840 * A2) ≤ 1150976 + F
      have f5 : 491520 * N + 3809280 - 3840 * A ≤ F := hF 5 (by omega) (by decide)
      have g1 : G ≤ 32 := hGj 5 (by omega)
      have g2 : N * (2048 - 32) ≤ 2 * A := h2 5 (by omega)
      rcases hC2 with ⟨hq, hc⟩ | ⟨hq, hc⟩ | hc | hc
      · have u1 : G ≤ 2 := hGj 1 hq
        have u2 : N * (2048 - 2) ≤ 2 * A := h2 1 hq
        clear hF hGj h2
        omega
      · have u1 : G ≤ 16 := hGj 4 hq
        have u2 : N * (2048 - 16) ≤ 2 * A := h2 4 hq
        clear hF hGj h2
        omega
      · clear hF hGj h2
        omega
      · clear hF hGj h2
        omega
    · show 4096 * C + (430080 * N2 + 3333120 - 1920 * A2) ≤ 1150976 + F
      have f6 : 430080 * N + 3333120 - 1920 * A ≤ F := hF 6 (by omega) (by decide)
      have f7 : 368640 * N + 2856960 - 960 * A ≤ F := hF 7 (by omega) (by decide)
      have g1 : G ≤ 64 := hGj 6 (by omega)
      have g2 : N * (2048 - 64) ≤ 2 * A := h2 6 (by omega)
      rcases hC2 with ⟨hq, hc⟩ | ⟨hq, hc⟩ | hc | hc
      · have u1 : G ≤ 2 := hGj 1 hq
        have u2 : N * (2048 - 2) ≤ 2 * A := h2 1 hq
        clear hF hGj h2
        omega
      · have u1 : G ≤ 16 := hGj 4 hq
        have u2 : N * (2048 - 16) ≤ 2 * A := h2 4 hq
        clear hF hGj h2
        omega
      · clear hF hGj h2
        omega
      · clear hF hGj h2
        omega
    · show 4096 * C + (368640 * N2 + 2856960 - 960 * A2) ≤ 1150976 + F
      have f7 : 368640 * N + 2856960 - 960 * A ≤ F := hF 7 (by omega) (by decide)
      have f8 : 307200 * N + 2380800 - 480 * A ≤ F := hF 8 (by omega) (by decide)
      have g1 : G ≤ 128 := hGj 7 (by omega)
      have g2 : N * (2048 - 128) ≤ 2 * A := h2 7 (by omega)
      rcases hC2 with ⟨hq, hc⟩ | ⟨hq, hc⟩ | hc | hc
      · have u1 : G ≤ 2 := hGj 1 hq
        have u2 : N * (2048 - 2) ≤ 2 * A := h2 1 hq
        clear hF hGj h2
        omega
      · have u1 : G ≤ 16 := hGj 4 hq
        have u2 : N * (2048 - 16) ≤ 2 * A := h2 4 hq
        clear hF hGj h2
        omega
      · clear hF hGj h2
        omega
      · clear hF hGj h2
        omega
    · show 4096 * C + (307200 * N2 + 2380800 - 480 * A2) ≤ 1150976 + F
      have f8 : 307200 * N + 2380800 - 480 * A ≤ F := hF 8 (by omega) (by decide)
      have f9 : 245760 * N + 1904640 - 240 * A ≤ F := hF 9 (by omega) (by decide)
      have g1 : G ≤ 256 := hGj 8 (by omega)
      have g2 : N * (2048 - 256) ≤ 2 * A := h2 8 (by omega)
      rcases hC2 with ⟨hq, hc⟩ | ⟨hq, hc⟩ | hc | hc
      · have u1 : G ≤ 2 := hGj 1 hq
        have u2 : N * (2048 - 2) ≤ 2 * A := h2 1 hq
        clear hF hGj h2
        omega
      · have u1 : G ≤ 16 := hGj 4 hq
        have u2 : N * (2048 - 16) ≤ 2 * A := h2 4 hq
        clear hF hGj h2
        omega
      · clear hF hGj h2
        omega
      · clear hF hGj h2
        omega
    · show 4096 * C + (245760 * N2 + 1904640 - 240 * A2) ≤ 1150976 + F
      have f9 : 245760 * N + 1904640 - 240 * A ≤ F := hF 9 (by omega) (by decide)
      have f10 : 184320 * N + 1428480 - 120 * A ≤ F := hF 10 (by omega) (by decide)
      have g1 : G ≤ 512 := hGj 9 (by omega)
      have g2 : N * (2048 - 512) ≤ 2 * A := h2 9 (by omega)
      rcases hC2 with ⟨hq, hc⟩ | ⟨hq, hc⟩ | hc | hc
      · have u1 : G ≤ 2 := hGj 1 hq
        have u2 : N * (2048 - 2) ≤ 2 * A := h2 1 hq
        clear hF hGj h2
        omega
      · have u1 : G ≤ 16 := hGj 4 hq
        have u2 : N * (2048 - 16) ≤ 2 * A := h2 4 hq
        clear hF hGj h2
        omega
      · clear hF hGj h2
        omega
      · clear hF hGj h2
        omega
    · show 4096 * C + (184320 * N2 + 1428480 - 120 * A2) ≤ 1150976 + F
      have f10 : 184320 * N + 1428480 - 120 * A ≤ F := hF 10 (by omega) (by decide)
      have f11 : 122880 * N + 952320 - 60 * A ≤ F := hF 11 (by omega) (by decide)
      have g1 : G ≤ 1024 := hGj 10 (by omega)
      have g2 : N * (2048 - 1024) ≤ 2 * A := h2 10 (by omega)
      rcases hC2 with ⟨hq, hc⟩ | ⟨hq, hc⟩ | hc | hc
      · have u1 : G ≤ 2 := hGj 1 hq
        have u2 : N * (2048 - 2) ≤ 2 * A := h2 1 hq
        clear hF hGj h2
        omega
      · have u1 : G ≤ 16 := hGj 4 hq
        have u2 : N * (2048 - 16) ≤ 2 * A := h2 4 hq
        clear hF hGj h2
        omega
      · clear hF hGj h2
        omega
      · clear hF hGj h2
        omega
    · show 4096 * C + (122880 * N2 + 952320 - 60 * A2) ≤ 1150976 + F
      have f11 : 122880 * N + 952320 - 60 * A ≤ F := hF 11 (by omega) (by decide)
      have g1 : G ≤ 1024 := hGj 10 (by omega)
      have g2 : N * (2048 - 1024) ≤ 2 * A := h2 10 (by omega)
      rcases hC2 with ⟨hq, hc⟩ | ⟨hq, hc⟩ | hc | hc
      · have u1 : G ≤ 2 := hGj 1 hq
        have u2 : N * (2048 - 2) ≤ 2 * A := h2 1 hq
        clear hF hGj h2
        omega
      · have u1 : G ≤ 16 := hGj 4 hq
        have u2 : N * (2048 - 16) ≤ 2 * A := h2 4 hq
        clear hF hGj h2
        omega
      · clear hF hGj h2
        omega
      · clear hF hGj h2
        omega
    · show 4096 * C + (61440 * N2 + 476160 - 30 * A2) ≤ 1150976 + F
      have f11 : 122880 * N + 952320 - 60 * A ≤ F := hF 11 (by omega) (by decide)
      have f12 : 61440 * N + 476160 - 30 * A ≤ F := hF 12 (by omega) (by decide)
      have g1 : G ≤ 1024 := hGj 10 (by omega)
      have g2 : N * (2048 - 1024) ≤ 2 * A := h2 10 (by omega)
      rcases hC2 with ⟨hq, hc⟩ | ⟨hq, hc⟩ | hc | hc
      · have u1 : G ≤ 2 := hGj 1 hq
        have u2 : N * (2048 - 2) ≤ 2 * A := h2 1 hq
        clear hF hGj h2
        omega
      · have u1 : G ≤ 16 := hGj 4 hq
        have u2 : N * (2048 - 16) ≤ 2 * A := h2 4 hq
        clear hF hGj h2
        omega
      · clear hF hGj h2
        omega
      · clear hF hGj h2
        omega
  ·
    have f11 : 122880 * N + 952320 - 60 * A ≤ F := hF 11 (by omega) (by decide)
    have g1 : G ≤ 1024 := hGj 10 (by omega)
    have g2 : N * (2048 - 1024) ≤ 2 * A := h2 10 (by omega)
    rcases hC2 with ⟨hq, hc⟩ | ⟨hq, hc⟩ | hc | hc
    · have u1 : G ≤ 2 := hGj 1 hq
      have u2 : N * (2048 - 2) ≤ 2 * A := h2 1 hq
      clear hF hGj h2
      omega
    · have u1 : G ≤ 16 := hGj 4 hq
      have u2 : N * (2048 - 16) ≤ 2 * A := h2 4 hq
      clear hF hGj h2
      omega
    · clear hF hGj h2
      omega
    · clear hF hGj h2
      omega
theorem qs_x12 {g : Nat} {A N E z C F A2 N2 G : Int} (hF0 : 0 ≤ F) (hF : ∀ i : Nat, g ≤ i → i < 13 → qs_l i A N ≤ F) (hN : 1 ≤ N) (hN1 : N = 1 → 512 ≤ A) (hz : 0 ≤ z) (hE : 0 ≤ E) (h1 : A ≤ N * 4096) (h3 : z * 4096 ≤ 65536) (h4 : z * 4096 ≤ 2 * E + G) (hC : C ≤ 529) (hm : (A2 = A + E ∧ N2 = N + 1) ∨ (3 ≤ N ∧ A + E - G ≤ 2 * A2 ∧ 2 * N2 ≤ N + 2)) (hg : g ≤ 11) (hG : 1 ≤ G ∧ G ≤ 2048) (hGj : ∀ j : Nat, g ≤ j → G ≤ 2 ^ j) (h2 : ∀ j : Nat, g ≤ j → N * (4096 - 2 ^ j) ≤ 2 * A) (hC2 : (g ≤ 1 ∧ C ≤ 8 * z + 125) ∨ (g ≤ 4 ∧ C ≤ 8 * z + 107) ∨ C ≤ 8 * z + 80 ∨ (g = 0 ∧ G = 1 ∧ 31 ≤ z ∧ C ≤ 8 * z + 161) ∨ (1 ≤ g ∧ 13 ≤ z ∧ C ≤ 8 * z + 152)) : (∀ j : Nat, g ≤ j → j < 13 → 4096 * C + qs_l j A2 N2 ≤ 1150976 + F) ∧ 4096 * C ≤ 1150976 + F := by
  constructor
  · intro j hj1 hj2
    have hjs : j = 0 ∨ j = 1 ∨ j = 2 ∨ j = 3 ∨ j = 4 ∨ j = 5 ∨ j = 6 ∨ j = 7 ∨ j = 8 ∨ j = 9 ∨ j = 10 ∨ j = 11 ∨ j = 12 := by omega
    rcases hjs with rfl | rfl | rfl | rfl | rfl | rfl | rfl | rfl | rfl | rfl | rfl | rfl | rfl
    · show 4096 * C + (798720 * N2 + 6190080 - 122880 * A2) ≤ 1150976 + F
      have g1 : G ≤ 1 := hGj 0 (by omega)
      have g2 : N * (4096 - 1) ≤ 2 * A := h2 0 (by omega)
      rcases hC2 with ⟨hq, hc⟩ | ⟨hq, hc⟩ | hc | hc
      · have u1 : G ≤ 2 := hGj 1 hq
        have u2 : N * (4096 - 2) ≤ 2 * A := h2 1 hq
        clear hF hGj h2
        omega
      · have u1 : G ≤ 16 := hGj 4 hq
        have u2 : N * (4096 - 16) ≤ 2 * A := h2 4 hq
        clear hF hGj h2
        omega
      · clear hF hGj h2
        omega
      · clear hF hGj h2
        omega
    · show 4096 * C + (737280 * N2 + 5713920 - 61440 * A2) ≤ 1150976 + F
      have g1 : G ≤ 2 := hGj 1 (by omega)
      have g2 : N * (4096 - 2) ≤ 2 * A := h2 1 (by omega)
      rcases hC2 with ⟨hq, hc⟩ | ⟨hq, hc⟩ | hc | hc
      · have u1 : G ≤ 2 := hGj 1 hq
        have u2 : N * (4096 - 2) ≤ 2 * A := h2 1 hq
        clear hF hGj h2
        omega
      · have u1 : G ≤ 16 := hGj 4 hq
        have u2 : N * (4096 - 16) ≤ 2 * A := h2 4 hq
        clear hF hGj h2
        omega
      · clear hF hGj h2
        omega
      · clear hF hGj h2
        omega
    · show 4096 * C + (675840 * N2 + 5237760 - 30720 * A2) ≤ 1150976 + F
      have g1 : G ≤ 4 := hGj 2 (by omega)
      have g2 : N * (4096 - 4) ≤ 2 * A := h2 2 (by omega)
      rcases hC2 with ⟨hq, hc⟩ | ⟨hq, hc⟩ | hc | hc
      · have u1 : G ≤ 2 := hGj 1 hq
        have u2 : N * (4096 - 2) ≤ 2 * A := h2 1 hq
        clear hF hGj h2
        omega
      · have u1 : G ≤ 16 := hGj 4 hq
        have u2 : N * (4096 - 16) ≤ 2 * A := h2 4 hq
        clear hF hGj h2
        omega
      · clear hF hGj h2
        omega
      · clear hF hGj h2
        omega
    · show 4096 * C + (614400 * N2 + 4761600 - 15360 * A2) ≤ 1150976 + F
      have g1 : G ≤ 8 := hGj 3 (by omega)
      have g2 : N * (4096 - 8) ≤ 2 * A := h2 3 (by omega)
      rcases hC2 with ⟨hq, hc⟩ | ⟨hq, hc⟩ | hc | hc
      · have u1 : G ≤ 2 := hGj 1 hq
        have u2 : N * (4096 - 2) ≤ 2 * A := h2 1 hq
        clear hF hGj h2
        omega
      · have u1 : G ≤ 16 := hGj 4 hq
        have u2 : N * (4096 - 16) ≤ 2 * A := h2 4 hq
        clear hF hGj h2
        omega
      · clear hF hGj h2
        omega
      · clear hF hGj h2
        omega
    · show 4096 * C + (552960 * N2 + 4285440 - 7680 * A2) ≤ 1150976 + F
      have g1 : G ≤ 16 := hGj 4 (by omega)
      have g2 : N * (4096 - 16) ≤ 2 * A := h2 4 (by omega)
      rcases hC2 with ⟨hq, hc⟩ | ⟨hq, hc⟩ | hc | hc
      · have u1 : G ≤ 2 := hGj 1 hq
        have u2 : N * (4096 - 2) ≤ 2 * A := h2 1 hq
        clear hF hGj h2
        omega
      · have u1 : G ≤ 16 := hGj 4 hq
        have u2 : N * (4096 - 16) ≤ 2 * A := h2 4 hq
        clear hF hGj h2
        omega
      · clear hF hGj h2
        omega
      · clear hF hGj h2
        omega
    · show 4096 * C + (491520 * N2 + 3809280 - 3840 * A2) ≤ 1150976 + F
      have g1 : G ≤ 32 := hGj 5 (by omega)
      have g2 : N * (4096 - 32) ≤ 2 * A := h2 5 (by omega)
      rcases hC2 with ⟨hq, hc⟩ | ⟨hq, hc⟩ | hc | hc
      · have u1 : G ≤ 2 := hGj 1 hq
        have u2 : N * (4096 - 2) ≤ 2 * A := h2 1 hq
        clear hF hGj h2
        omega
      · have u1 : G ≤ 16 := hGj 4 hq
        have u2 : N * (4096 - 16) ≤ 2 * A := h2 4 hq
        clear hF hGj h2
        omega
      · clear hF hGj h2
        omega
      · clear hF hGj h2
        omega
    · show 4096 * C + (430080 * N2 + 3333120 - 1920 * A2) ≤ 1150976 + F
      have g1 : G ≤ 64 := hGj 6 (by omega)
      have g2 : N * (4096 - 64) ≤ 2 * A := h2 6 (by omega)
      rcases hC2 with ⟨hq, hc⟩ | ⟨hq, hc⟩ | hc | hc
      · have u1 : G ≤ 2 := hGj 1 hq
        have u2 : N * (4096 - 2) ≤ 2 * A := h2 1 hq
        clear hF hGj h2
        omega
      · have u1 : G ≤ 16 := hGj 4 hq
        have u2 : N * (4096 - 16) ≤ 2 * A := h2 4 hq
        clear hF hGj h2
        omega
      · clear hF hGj h2
        omega
      · clear hF hGj h2
        omega
    · show 4096 * C + (368640 * N2 + 2856960 - 960 * A2) ≤ 1150976 + F
      have f7 : 368640 * N + 2856960 - 960 * A ≤ F := hF 7 (by omega) (by decide)
      have f8 : 307200 * N + 2380800 - 480 * A ≤ F := hF 8 (by omega) (by decide)
      have g1 : G ≤ 128 := hGj 7 (by omega)
      have g2 : N * (4096 - 128) ≤ 2 * A := h2 7 (by omega)
      rcases hC2 with ⟨hq, hc⟩ | ⟨hq, hc⟩ | hc | hc
      · have u1 : G ≤ 2 := hGj 1 hq
        have u2 : N * (4096 - 2) ≤ 2 * A := h2 1 hq
        clear hF hGj h2
        omega
      · have u1 : G ≤ 16 := hGj 4 hq
        have u2 : N * (4096 - 16) ≤ 2 * A := h2 4 hq
        clear hF hGj h2
        omega
      · clear hF hGj h2
        omega
      · clear hF hGj h2
        omega
    · show 4096 * C + (307200 * N2 + 2380800 - 480 * A2) ≤ 1150976 + F
      have f8 : 307200 * N + 2380800 - 480 * A ≤ F := hF 8 (by omega) (by decide)
      have f9 : 245760 * N + 1904640 - 240 * A ≤ F := hF 9 (by omega) (by decide)
      have g1 : G ≤ 256 := hGj 8 (by omega)
      have g2 : N * (4096 - 256) ≤ 2 * A := h2 8 (by omega)
      rcases hC2 with ⟨hq, hc⟩ | ⟨hq, hc⟩ | hc | hc
      · have u1 : G ≤ 2 := hGj 1 hq
        have u2 : N * (4096 - 2) ≤ 2 * A := h2 1 hq
        clear hF hGj h2
        omega
      · have u1 : G ≤ 16 := hGj 4 hq
        have u2 : N * (4096 - 16) ≤ 2 * A := h2 4 hq
        clear hF hGj h2
        omega
      · clear hF hGj h2
        omega
      · clear hF hGj h2
        omega
    · show 4096 * C + (245760 * N2 + 1904640 - 240 * A2) ≤ 1150976 + F
      have f9 : 245760 * N + 1904640 - 240 * A ≤ F := hF 9 (by omega) (by decide)
      have f10 : 184320 * N + 1428480 - 120 * A ≤ F := hF 10 (by omega) (by decide)
      have g1 : G ≤ 512 := hGj 9 (by omega)
      have g2 : N * (4096 - 512) ≤ 2 * A := h2 9 (by omega)
      rcases hC2 with ⟨hq, hc⟩ | ⟨hq, hc⟩ | hc | hc
      · have u1 : G ≤ 2 := hGj 1 hq
        have u2 : N * (4096 - 2) ≤ 2 * A := h2 1 hq
        clear hF hGj h2
        omega
      · have u1 : G ≤ 16 := hGj 4 hq
        have u2 : N * (4096 - 16) ≤ 2 * A := h2 4 hq
        clear hF hGj h2
        omega
      · clear hF hGj h2
        omega
      · clear hF hGj h2
        omega
    · show 4096 * C + (184320 * N2 + 1428480 - 120 * A2) ≤ 1150976 + F
      have f10 : 184320 * N + 1428480 - 120 * A ≤ F := hF 10 (by omega) (by decide)
      have f11 : 122880 * N + 952320 - 60 * A ≤ F := hF 11 (by omega) (by decide)
      have g1 : G ≤ 1024 := hGj 10 (by omega)
      have g2 : N * (4096 - 1024) ≤ 2 * A := h2 10 (by omega)
      rcases hC2 with ⟨hq, hc⟩ | ⟨hq, hc⟩ | hc | hc
      · have u1 : G ≤ 2 := hGj 1 hq
        have u2 : N * (4096 - 2) ≤ 2 * A := h2 1 hq
        clear hF hGj h2
        omega
      · have u1 : G ≤ 16 := hGj 4 hq
        have u2 : N * (4096 - 16) ≤ 2 * A := h2 4 hq
        clear hF hGj h2
        omega
      · clear hF hGj h2
        omega
      · clear hF hGj h2
        omega
    · show 4096 * C + (122880 * N2 + 952320 - 60 * A2) ≤ 1150976 + F
      have f11 : 122880 * N + 952320 - 60 * A ≤ F := hF 11 (by omega) (by decide)
      have g1 : G ≤ 2048 := hGj 11 (by omega)
      have g2 : N * (4096 - 2048) ≤ 2 * A := h2 11 (by omega)
      rcases hC2 with ⟨hq, hc⟩ | ⟨hq, hc⟩ | hc | hc
      · have u1 : G ≤ 2 := hGj 1 hq
        have u2 : N * (4096 - 2) ≤ 2 * A := h2 1 hq
        clear hF hGj h2
        omega
      · have u1 : G ≤ 16 := hGj 4 hq
        have u2 : N * (4096 - 16) ≤ 2 * A := h2 4 hq
        clear hF hGj h2
        omega
      · clear hF hGj h2
        omega
      · clear hF hGj h2
        omega
    · show 4096 * C + (61440 * N2 + 476160 - 30 * A2) ≤ 1150976 + F
      have f12 : 61440 * N + 476160 - 30 * A ≤ F := hF 12 (by omega) (by decide)
      have g1 : G ≤ 2048 := hGj 11 (by omega)
      have g2 : N * (4096 - 2048) ≤ 2 * A := h2 11 (by omega)
      rcases hC2 with ⟨hq, hc⟩ | ⟨hq, hc⟩ | hc | hc
      · have u1 : G ≤ 2 := hGj 1 hq
        have u2 : N * (4096 - 2) ≤ 2 * A := h2 1 hq
        clear hF hGj h2
        omega
      · have u1 : G ≤ 16 := hGj 4 hq
        have u2 : N * (4096 - 16) ≤ 2 * A := h2 4 hq
        clear hF hGj h2
        omega
      · clear hF hGj h2
        omega
      · clear hF hGj h2
        omega
  ·
    have g1 : G ≤ 2048 := hGj 11 (by omega)
    have g2 : N * (4096 - 2048) ≤ 2 * A := h2 11 (by omega)
    rcases hC2 with ⟨hq, hc⟩ | ⟨hq, hc⟩ | hc | hc
    · have u1 : G ≤ 2 := hGj 1 hq
      have u2 : N * (4096 - 2) ≤ 2 * A := h2 1 hq
      clear hF hGj h2
      omega
    · have u1 : G ≤ 16 := hGj 4 hq
      have u2 : N * (4096 - 16) ≤ 2 * A := h2 4 hq
      clear hF hGj h2
      omega
    · clear hF hGj h2
      omega
    · clear hF hGj h2
      omega
theorem qs_x13 {g : Nat} {A N E z C F A2 N2 G : Int} (hF0 : 0 ≤ F) (hF : ∀ i : Nat, g ≤ i → i < 13 → qs_l i A N ≤ F) (hN : 1 ≤ N) (hN1 : N = 1 → 512 ≤ A) (hz : 0 ≤ z) (hE : 0 ≤ E) (h1 : A ≤ N * 8192) (h3 : z * 8192 ≤ 65536) (h4 : z * 8192 ≤ 2 * E + G) (hC : C ≤ 529) (hm : (A2 = A + E ∧ N2 = N + 1) ∨ (3 ≤ N ∧ A + E - G ≤ 2 * A2 ∧ 2 * N2 ≤ N + 2)) (hg : g ≤ 12) (hG : 1 ≤ G ∧ G ≤ 4096) (hGj : ∀ j : Nat, g ≤ j → G ≤ 2 ^ j) (h2 : ∀ j : Nat, g ≤ j → N * (8192 - 2 ^ j) ≤ 2 * A) (hC2 : (g ≤ 1 ∧ C ≤ 8 * z + 134) ∨ (g ≤ 4 ∧ C ≤ 8 * z + 116) ∨ C ≤ 8 * z + 89 ∨ (g = 0 ∧ G = 1 ∧ 31 ≤ z ∧ C ≤ 8 * z + 161) ∨ (1 ≤ g ∧ 13 ≤ z ∧ C ≤ 8 * z + 152)) : (∀ j : Nat, g ≤ j → j < 13 → 4096 * C + qs_l j A2 N2 ≤ 1150976 + F) ∧ 4096 * C ≤ 1150976 + F := by
  constructor
  · intro j hj1 hj2
    have hjs : j = 0 ∨ j = 1 ∨ j = 2 ∨ j = 3 ∨ j = 4 ∨ j = 5 ∨ j = 6 ∨ j = 7 ∨ j = 8 ∨ j = 9 ∨ j = 10 ∨ j = 11 ∨ j = 12 := by omega
    rcases hjs with rfl | rfl | rfl | rfl | rfl | rfl | rfl | rfl | rfl | rfl | rfl | rfl | rfl
    · show 4096 * C + (798720 * N2 + 6190080 - 122880 * A2) ≤ 1150976 + F
      have g1 : G ≤ 1 := hGj 0 (by omega)
      have g2 : N * (8192 - 1) ≤ 2 * A := h2 0 (by omega)
      rcases hC2 with ⟨hq, hc⟩ | ⟨hq, hc⟩ | hc | hc
      · have u1 : G ≤ 2 := hGj 1 hq
        have u2 : N * (8192 - 2) ≤ 2 * A := h2 1 hq
        clear hF hGj h2
        omega
      · have u1 : G ≤ 16 := hGj 4 hq
        have u2 : N * (8192 - 16) ≤ 2 * A := h2 4 hq
        clear hF hGj h2
        omega
      · clear hF hGj h2
        omega
      · clear hF hGj h2
        omega
    · show 4096 * C + (737280 * N2 + 5713920 - 61440 * A2) ≤ 1150976 + F
      have g1 : G ≤ 2 := hGj 1 (by omega)
      have g2 : N * (8192 - 2) ≤ 2 * A := h2 1 (by omega)
      rcases hC2 with ⟨hq, hc⟩ | ⟨hq, hc⟩ | hc | hc
      · have u1 : G ≤ 2 := hGj 1 hq
        have u2 : N * (8192 - 2) ≤ 2 * A := h2 1 hq
        clear hF hGj h2
        omega
      · have u1 : G ≤ 16 := hGj 4 hq
        have u2 : N * (8192 - 16) ≤ 2 * A := h2 4 hq
        clear hF hGj h2
        omega
      · clear hF hGj h2
        omega
      · clear hF hGj h2
        omega
    · show 4096 * C + (675840 * N2 + 5237760 - 30720 * A2) ≤ 1150976 + F
      have g1 : G ≤ 4 := hGj 2 (by omega)
      have g2 : N * (8192 - 4) ≤ 2 * A := h2 2 (by omega)
      rcases hC2 with ⟨hq, hc⟩ | ⟨hq, hc⟩ | hc | hc
      · have u1 : G ≤ 2 := hGj 1 hq
        have u2 : N * (8192 - 2) ≤ 2 * A := h2 1 hq
        clear hF hGj h2
        omega
      · have u1 : G ≤ 16 := hGj 4 hq
        have u2 : N * (8192 - 16) ≤ 2 * A := h2 4 hq
        clear hF hGj h2
        omega
      · clear hF hGj h2
        omega
      · clear hF hGj h2
        omega
    · show 4096 * C + (614400 * N2 + 4761600 - 15360 * A2) ≤ 1150976 + F
      have g1 : G ≤ 8 := hGj 3 (by omega)
      have g2 : N * (8192 - 8) ≤ 2 * A := h2 3 (by omega)
      rcases hC2 with ⟨hq, hc⟩ | ⟨hq, hc⟩ | hc | hc
      · have u1 : G ≤ 2 := hGj 1 hq
        have u2 : N * (8192 - 2) ≤ 2 * A := h2 1 hq
        clear hF hGj h2
        omega
      · have u1 : G ≤ 16 := hGj 4 hq
        have u2 : N * (8192 - 16) ≤ 2 * A := h2 4 hq
        clear hF hGj h2
        omega
      · clear hF hGj h2
        omega
      · clear hF hGj h2
        omega
    · show 4096 * C + (552960 * N2 + 4285440 - 7680 * A2) ≤ 1150976 + F
      have g1 : G ≤ 16 := hGj 4 (by omega)
      have g2 : N * (8192 - 16) ≤ 2 * A := h2 4 (by omega)
      rcases hC2 with ⟨hq, hc⟩ | ⟨hq, hc⟩ | hc | hc
      · have u1 : G ≤ 2 := hGj 1 hq
        have u2 : N * (8192 - 2) ≤ 2 * A := h2 1 hq
        clear hF hGj h2
        omega
      · have u1 : G ≤ 16 := hGj 4 hq
        have u2 : N * (8192 - 16) ≤ 2 * A := h2 4 hq
        clear hF hGj h2
        omega
      · clear hF hGj h2
        omega
      · clear hF hGj h2
        omega
    · show 4096 * C + (491520 * N2 + 3809280 - 3840 * A2) ≤ 1150976 + F
      have g1 : G ≤ 32 := hGj 5 (by omega)
      have g2 : N * (8192 - 32) ≤ 2 * A := h2 5 (by omega)
      rcases hC2 with ⟨hq, hc⟩ | ⟨hq, hc⟩ | hc | hc
      · have u1 : G ≤ 2 := hGj 1 hq
        have u2 : N * (8192 - 2) ≤ 2 * A := h2 1 hq
        clear hF hGj h2
        omega
      · have u1 : G ≤ 16 := hGj 4 hq
        have u2 : N * (8192 - 16) ≤ 2 * A := h2 4 hq
        clear hF hGj h2
        omega
      · clear hF hGj h2
        omega
      · clear hF hGj h2
        omega
    · show 4096 * C + (430080 * N2 + 3333120 - 1920 * A2) ≤ 1150976 + F
      have g1 : G ≤ 64 := hGj 6 (by omega)
      have g2 : N * (8192 - 64) ≤ 2 * A := h2 6 (by omega)
      rcases hC2 with ⟨hq, hc⟩ | ⟨hq, hc⟩ | hc | hc
      · have u1 : G ≤ 2 := hGj 1 hq
        have u2 : N * (8192 - 2) ≤ 2 * A := h2 1 hq
        clear hF hGj h2
        omega
      · have u1 : G ≤ 16 := hGj 4 hq
        have u2 : N * (8192 - 16) ≤ 2 * A := h2 4 hq
        clear hF hGj h2
        omega
      · clear hF hGj h2
        omega
      · clear hF hGj h2
        omega
    · show 4096 * C + (368640 * N2 + 2856960 - 960 * A2) ≤ 1150976 + F
      have g1 : G ≤ 128 := hGj 7 (by omega)
      have g2 : N * (8192 - 128) ≤ 2 * A := h2 7 (by omega)
      rcases hC2 with ⟨hq, hc⟩ | ⟨hq, hc⟩ | hc | hc
      · have u1 : G ≤ 2 := hGj 1 hq
        have u2 : N * (8192 - 2) ≤ 2 * A := h2 1 hq
        clear hF hGj h2
        omega
      · have u1 : G ≤ 16 := hGj 4 hq
        have u2 : N * (8192 - 16) ≤ 2 * A := h2 4 hq
        clear hF hGj h2
        omega
      · clear hF hGj h2
        omega
      · clear hF hGj h2
        omega
    · show 4096 * C + (307200 * N2 + 2380800 - 480 * A2) ≤ 1150976 + F
      have f8 : 307200 * N + 2380800 - 480 * A ≤ F := hF 8 (by omega) (by decide)
      have g1 : G ≤ 256 := hGj 8 (by omega)
      have g2 : N * (8192 - 256) ≤ 2 * A := h2 8 (by omega)
      rcases hC2 with ⟨hq, hc⟩ | ⟨hq, hc⟩ | hc | hc
      · have u1 : G ≤ 2 := hGj 1 hq
        have u2 : N * (8192 - 2) ≤ 2 * A := h2 1 hq
        clear hF hGj h2
        omega
      · have u1 : G ≤ 16 := hGj 4 hq
        have u2 : N * (8192 - 16) ≤ 2 * A := h2 4 hq
        clear hF hGj h2
        omega
      · clear hF hGj h2
        omega
      · clear hF hGj h2
        omega
    · show 4096 * C + (245760 * N2 + 1904640 - 240 * A2) ≤ 1150976 + F
      have f9 : 245760 * N + 1904640 - 240 * A ≤ F := hF 9 (by omega) (by decide)
      have f10 : 184320 * N + 1428480 - 120 * A ≤ F := hF 10 (by omega) (by decide)
      have g1 : G ≤ 512 := hGj 9 (by omega)
      have g2 : N * (8192 - 512) ≤ 2 * A := h2 9 (by omega)
      rcases hC2 with ⟨hq, hc⟩ | ⟨hq, hc⟩ | hc | hc
      · have u1 : G ≤ 2 := hGj 1 hq
        have u2 : N * (8192 - 2) ≤ 2 * A := h2 1 hq
        clear hF hGj h2
        omega
      · have u1 : G ≤ 16 := hGj 4 hq
        have u2 : N * (8192 - 16) ≤ 2 * A := h2 4 hq
        clear hF hGj h2
        omega
      · clear hF hGj h2
        omega
      · clear hF hGj h2
        omega
    · show 4096 * C + (184320 * N2 + 1428480 - 120 * A2) ≤ 1150976 + F
      have f10 : 184320 * N + 1428480 - 120 * A ≤ F := hF 10 (by omega) (by decide)
      have f11 : 122880 * N + 952320 - 60 * A ≤ F := hF 11 (by omega) (by decide)
      have g1 : G ≤ 1024 := hGj 10 (by omega)
      have g2 : N * (8192 - 1024) ≤ 2 * A := h2 10 (by omega)
      rcases hC2 with ⟨hq, hc⟩ | ⟨hq, hc⟩ | hc | hc
      · have u1 : G ≤ 2 := hGj 1 hq
        have u2 : N * (8192 - 2) ≤ 2 * A := h2 1 hq
        clear hF hGj h2
        omega
      · have u1 : G ≤ 16 := hGj 4 hq
        have u2 : N * (8192 - 16) ≤ 2 * A := h2 4 hq
        clear hF hGj h2
        omega
      · clear hF hGj h2
        omega
      · clear hF hGj h2
        omega
    · show 4096 * C + (122880 * N2 + 952320 - 60 * A2) ≤ 1150976 + F
      have f11 : 122880 * N + 952320 - 60 * A ≤ F := hF 11 (by omega) (by decide)
      have g1 : G ≤ 2048 := hGj 11 (by omega)
      have g2 : N * (8192 - 2048) ≤ 2 * A := h2 11 (by omega)
      rcases hC2 with ⟨hq, hc⟩ | ⟨hq, hc⟩ | hc | hc
      · have u1 : G ≤ 2 := hGj 1 hq
        have u2 : N * (8192 - 2) ≤ 2 * A := h2 1 hq
        clear hF hGj h2
        omega
      · have u1 : G ≤ 16 := hGj 4 hq
        have u2 : N * (8192 - 16) ≤ 2 * A := h2 4 hq
        clear hF hGj h2
        omega
      · clear hF hGj h2
        omega
      · clear hF hGj h2
        omega
    · show 4096 * C + (61440 * N2 + 476160 - 30 * A2) ≤ 1150976 + F
      have g1 : G ≤ 4096 := hGj 12 (by omega)
      have g2 : N * (8192 - 4096) ≤ 2 * A := h2 12 (by omega)
      rcases hC2 with ⟨hq, hc⟩ | ⟨hq, hc⟩ | hc | hc
      · have u1 : G ≤ 2 := hGj 1 hq
        have u2 : N * (8192 - 2) ≤ 2 * A := h2 1 hq
        clear hF hGj h2
        omega
      · have u1 : G ≤ 16 := hGj 4 hq
        have u2 : N * (8192 - 16) ≤ 2 * A := h2 4 hq
        clear hF hGj h2
        omega
      · clear hF hGj h2
        omega
      · clear hF hGj h2
        omega
  ·
    have g1 : G ≤ 4096 := hGj 12 (by omega)
    have g2 : N * (8192 - 4096) ≤ 2 * A := h2 12 (by omega)
    rcases hC2 with ⟨hq, hc⟩ | ⟨hq, hc⟩ | hc | hc
    · have u1 : G ≤ 2 := hGj 1 hq
      have u2 : N * (8192 - 2) ≤ 2 * A := h2 1 hq
      clear hF hGj h2
      omega
    · have u1 : G ≤ 16 := hGj 4 hq
      have u2 : N * (8192 - 16) ≤ 2 * A := h2 4 hq
      clear hF hGj h2
      omega
    · clear hF hGj h2
      omega
    · clear hF hGj h2
      omega
theorem qs_x14 {g : Nat} {A N E z C F A2 N2 G : Int} (hF0 : 0 ≤ F) (hF : ∀ i : Nat, g ≤ i → i < 13 → qs_l i A N ≤ F) (hN : 1 ≤ N) (hN1 : N = 1 → 512 ≤ A) (hz : 0 ≤ z) (hE : 0 ≤ E) (h1 : A ≤ N * 16384) (h3 : z * 16384 ≤ 65536) (h4 : z * 16384 ≤ 2 * E + G) (hC : C ≤ 529) (hm : (A2 = A + E ∧ N2 = N + 1) ∨ (3 ≤ N ∧ A + E - G ≤ 2 * A2 ∧ 2 * N2 ≤ N + 2)) (hg : g ≤ 13) (hG : 1 ≤ G ∧ G ≤ 8192) (hGj : ∀ j : Nat, g ≤ j → G ≤ 2 ^ j) (h2 : ∀ j : Nat, g ≤ j → N * (16384 - 2 ^ j) ≤ 2 * A) (hC2 : (g ≤ 1 ∧ C ≤ 8 * z + 143) ∨ (g ≤ 4 ∧ C ≤ 8 * z + 125) ∨ C ≤ 8 * z + 98 ∨ (g = 0 ∧ G = 1 ∧ 31 ≤ z ∧ C ≤ 8 * z + 161) ∨ (1 ≤ g ∧ 13 ≤ z ∧ C ≤ 8 * z + 152)) : (∀ j : Nat, g ≤ j → j < 13 → 4096 * C + qs_l j A2 N2 ≤ 1150976 + F) ∧ 4096 * C ≤ 1150976 + F := by
  constructor
  · intro j hj1 hj2
    have hjs : j = 0 ∨ j = 1 ∨ j = 2 ∨ j = 3 ∨ j = 4 ∨ j = 5 ∨ j = 6 ∨ j = 7 ∨ j = 8 ∨ j = 9 ∨ j = 10 ∨ j = 11 ∨ j = 12 := by omega
    rcases hjs with rfl | rfl | rfl | rfl | rfl | rfl | rfl | rfl | rfl | rfl | rfl | rfl | rfl
    · show 4096 * C + (798720 * N2 + 6190080 - 122880 * A2) ≤ 1150976 + F
      have g1 : G ≤ 1 := hGj 0 (by omega)
      have g2 : N * (16384 - 1) ≤ 2 * A := h2 0 (by omega)
      rcases hC2 with ⟨hq, hc⟩ | ⟨hq, hc⟩ | hc | hc
      · have u1 : G ≤ 2 := hGj 1 hq
        have u2 : N * (16384 - 2) ≤ 2 * A := h2 1 hq
        clear hF hGj h2
        omega
      · have u1 : G ≤ 16 := hGj 4 hq
        have u2 : N * (16384 - 16) ≤ 2 * A := h2 4 hq
        clear hF hGj h2
        omega
      · clear hF hGj h2
        omega
      · clear hF hGj h2
        omega
    · show 4096 * C + (737280 * N2 + 5713920 - 61440 * A2) ≤ 1150976 + F
      have g1 : G ≤ 2 := hGj 1 (by omega)
      have g2 : N * (16384 - 2) ≤ 2 * A := h2 1 (by omega)
      rcases hC2 with ⟨hq, hc⟩ | ⟨hq, hc⟩ | hc | hc
      · have u1 : G ≤ 2 := hGj 1 hq
        have u2 : N * (16384 - 2) ≤ 2 * A := h2 1 hq
        clear hF hGj h2
        omega
      · have u1 : G ≤ 16 := hGj 4 hq
        have u2 : N * (16384 - 16) ≤ 2 * A := h2 4 hq
        clear hF hGj h2
        omega
      · clear hF hGj h2
        omega
      · clear hF hGj h2
        omega
    · show 4096 * C + (675840 * N2 + 5237760 - 30720 * A2) ≤ 1150976 + F
      have g1 : G ≤ 4 := hGj 2 (by omega)
      have g2 : N * (16384 - 4) ≤ 2 * A := h2 2 (by omega)
      rcases hC2 with ⟨hq, hc⟩ | ⟨hq, hc⟩ | hc | hc
      · have u1 : G ≤ 2 := hGj 1 hq
        have u2 : N * (16384 - 2) ≤ 2 * A := h2 1 hq
        clear hF hGj h2
        omega
      · have u1 : G ≤ 16 := hGj 4 hq
        have u2 : N * (16384 - 16) ≤ 2 * A := h2 4 hq
        clear hF hGj h2
        omega
      · clear hF hGj h2
        omega
      · clear hF hGj h2
        omega
    · show 4096 * C + (614400 * N2 + 4761600 - 15360 * A2) ≤ 1150976 + F
      have g1 : G ≤ 8 := hGj 3 (by omega)
      have g2 : N * (16384 - 8) ≤ 2 * A := h2 3 (by omega)
      rcases hC2 with ⟨hq, hc⟩ | ⟨hq, hc⟩ | hc | hc
      · have u1 : G ≤ 2 := hGj 1 hq
        have u2 : N * (16384 - 2) ≤ 2 * A := h2 1 hq
        clear hF hGj h2
        omega
      · have u1 : G ≤ 16 := hGj 4 hq
        have u2 : N * (16384 - 16) ≤ 2 * A := h2 4 hq
        clear hF hGj h2
        omega
      · clear hF hGj h2
        omega
      · clear hF hGj h2
        omega
    · show 4096 * C + (552960 * N2 + 4285440 - 7680 * A2) ≤ 1150976 + F
      have g1 : G ≤ 16 := hGj 4 (by omega)
      have g2 : N * (16384 - 16) ≤ 2 * A := h2 4 (by omega)
      rcases hC2 with ⟨hq, hc⟩ | ⟨hq, hc⟩ | hc | hc
      · have u1 : G ≤ 2 := hGj 1 hq
        have u2 : N * (16384 - 2) ≤ 2 * A := h2 1 hq
        clear hF hGj h2
        omega
      · have u1 : G ≤ 16 := hGj 4 hq
        have u2 : N * (16384 - 16) ≤ 2 * A := h2 4 hq
        clear hF hGj h2
        omega
      · clear hF hGj h2
        omega
      · clear hF hGj h2
        omega
    · show 4096 * C + (491520 * N2 + 3809280 - 3840 * A2) ≤ 1150976 + F
      have g1 : G ≤ 32 := hGj 5 (by omega)
      have g2 : N * (16384 - 32) ≤ 2 * A := h2 5 (by omega)
      rcases hC2 with ⟨hq, hc⟩ | ⟨hq, hc⟩ | hc | hc
      · have u1 : G ≤ 2 := hGj 1 hq
        have u2 : N * (16384 - 2) ≤ 2 * A := h2 1 hq
        clear hF hGj h2
        omega
      · have u1 : G ≤ 16 := hGj 4 hq
        have u2 : N * (16384 - 16) ≤ 2 * A := h2 4 hq
        clear hF hGj h2
        omega
      · clear hF hGj h2
        omega
      · clear hF hGj h2
        omega
    · show 4096 * C + (430080 * N2 + 3333120 - 1920 * A2) ≤ 1150976 + F
      have g1 : G ≤ 64 := hGj 6 (by omega)
      have g2 : N * (16384 - 64) ≤ 2 * A := h2 6 (by omega)
      rcases hC2 with ⟨hq, hc⟩ | ⟨hq, hc⟩ | hc | hc
      · have u1 : G ≤ 2 := hGj 1 hq
        have u2 : N * (16384 - 2) ≤ 2 * A := h2 1 hq
        clear hF hGj h2
        omega
      · have u1 : G ≤ 16 := hGj 4 hq
        have u2 : N * (16384 - 16) ≤ 2 * A := h2 4 hq
        clear hF hGj h2
        omega
      · clear hF hGj h2
        omega
      · clear hF hGj h2
        omega
    · show 4096 * C + (368640 * N2 + 2856960 - 960 * A2) ≤ 1150976 + F
      have g1 : G ≤ 128 := hGj 7 (by omega)
      have g2 : N * (16384 - 128) ≤ 2 * A := h2 7 (by omega)
      rcases hC2 with ⟨hq, hc⟩ | ⟨hq, hc⟩ | hc | hc
      · have u1 : G ≤ 2 := hGj 1 hq
        have u2 : N * (16384 - 2) ≤ 2 * A := h2 1 hq
        clear hF hGj h2
        omega
      · have u1 : G ≤ 16 := hGj 4 hq
        have u2 : N * (16384 - 16) ≤ 2 * A := h2 4 hq
        clear hF hGj h2
        omega
      · clear hF hGj h2
        omega
      · clear hF hGj h2
        omega
    · show 4096 * C + (307200 * N2 + 2380800 - 480 * A2) ≤ 1150976 + F
      have g1 : G ≤ 256 := hGj 8 (by omega)
      have g2 : N * (16384 - 256) ≤ 2 * A := h2 8 (by omega)
      rcases hC2 with ⟨hq, hc⟩ | ⟨hq, hc⟩ | hc | hc
      · have u1 : G ≤ 2 := hGj 1 hq
        have u2 : N * (16384 - 2) ≤ 2 * A := h2 1 hq
        clear hF hGj h2
        omega
      · have u1 : G ≤ 16 := hGj 4 hq
        have u2 : N * (16384 - 16) ≤ 2 * A := h2 4 hq
        clear hF hGj h2
        omega
      · clear hF hGj h2
        omega
      · clear hF hGj h2
        omega
    · show 4096 * C + (245760 * N2 + 1904640 - 240 * A2) ≤ 1150976 + F
      have g1 : G ≤ 512 := hGj 9 (by omega)
      have g2 : N * (16384 - 512) ≤ 2 * A := h2 9 (by omega)
      rcases hC2 with ⟨hq, hc⟩ | ⟨hq, hc⟩ | hc | hc
      · have u1 : G ≤ 2 := hGj 1 hq
        have u2 : N * (16384 - 2) ≤ 2 * A := h2 1 hq
        clear hF hGj h2
        omega
      · have u1 : G ≤ 16 := hGj 4 hq
        have u2 : N * (16384 - 16) ≤ 2 * A := h2 4 hq
        clear hF hGj h2
        omega
      · clear hF hGj h2
        omega
      · clear hF hGj h2
        omega
    · show 4096 * C + (184320 * N2 + 1428480 - 120 * A2) ≤ 1150976 + F
      have f10 : 184320 * N + 1428480 - 120 * A ≤ F := hF 10 (by omega) (by decide)
      have g1 : G ≤ 1024 := hGj 10 (by omega)
      have g2 : N * (16384 - 1024) ≤ 2 * A := h2 10 (by omega)
      rcases hC2 with ⟨hq, hc⟩ | ⟨hq, hc⟩ | hc | hc
      · have u1 : G ≤ 2 := hGj 1 hq
        have u2 : N * (16384 - 2) ≤ 2 * A := h2 1 hq
        clear hF hGj h2
        omega
      · have u1 : G ≤ 16 := hGj 4 hq
        have u2 : N * (16384 - 16) ≤ 2 * A := h2 4 hq
        clear hF hGj h2
        omega
      · clear hF hGj h2
        omega
      · clear hF hGj h2
        omega
    · show 4096 * C + (122880 * N2 + 952320 - 60 * A2) ≤ 1150976 + F
      have f11 : 122880 * N + 952320 - 60 * A ≤ F := hF 11 (by omega) (by decide)
      have g1 : G ≤ 2048 := hGj 11 (by omega)
      have g2 : N * (16384 - 2048) ≤ 2 * A := h2 11 (by omega)
      rcases hC2 with ⟨hq, hc⟩ | ⟨hq, hc⟩ | hc | hc
      · have u1 : G ≤ 2 := hGj 1 hq
        have u2 : N * (16384 - 2) ≤ 2 * A := h2 1 hq
        clear hF hGj h2
        omega
      · have u1 : G ≤ 16 := hGj 4 hq
        have u2 : N * (16384 - 16) ≤ 2 * A := h2 4 hq
        clear hF hGj h2
        omega
      · clear hF hGj h2
        omega
      · clear hF hGj h2
        omega
    · show 4096 * C + (61440 * N2 + 476160 - 30 * A2) ≤ 1150976 + F
      have g1 : G ≤ 4096 := hGj 12 (by omega)
      have g2 : N * (16384 - 4096) ≤ 2 * A := h2 12 (by omega)
      rcases hC2 with ⟨hq, hc⟩ | ⟨hq, hc⟩ | hc | hc
      · have u1 : G ≤ 2 := hGj 1 hq
        have u2 : N * (16384 - 2) ≤ 2 * A := h2 1 hq
        clear hF hGj h2
        omega
      · have u1 : G ≤ 16 := hGj 4 hq
        have u2 : N * (16384 - 16) ≤ 2 * A := h2 4 hq
        clear hF hGj h2
        omega
      · clear hF hGj h2
        omega
      · clear hF hGj h2
        omega
  ·
    have g1 : G ≤ 8192 := hGj 13 (by omega)
    have g2 : N * (16384 - 8192) ≤ 2 * A := h2 13 (by omega)
    rcases hC2 with ⟨hq, hc⟩ | ⟨hq, hc⟩ | hc | hc
    · have u1 : G ≤ 2 := hGj 1 hq
      have u2 : N * (16384 - 2) ≤ 2 * A := h2 1 hq
      clear hF hGj h2
      omega
    · have u1 : G ≤ 16 := hGj 4 hq
      have u2 : N * (16384 - 16) ≤ 2 * A := h2 4 hq
      clear hF hGj h2
      omega
    · clear hF hGj h2
      omega
    · clear hF hGj h2
      omega
theorem qs_x15 {g : Nat} {A N E z C F A2 N2 G : Int} (hF0 : 0 ≤ F) (hF : ∀ i : Nat, g ≤ i → i < 13 → qs_l i A N ≤ F) (hN : 1 ≤ N) (hN1 : N = 1 → 512 ≤ A) (hz : 0 ≤ z) (hE : 0 ≤ E) (h1 : A ≤ N * 32768) (h3 : z * 32768 ≤ 65536) (h4 : z * 32768 ≤ 2 * E + G) (hC : C ≤ 529) (hm : (A2 = A + E ∧ N2 = N + 1) ∨ (3 ≤ N ∧ A + E - G ≤ 2 * A2 ∧ 2 * N2 ≤ N + 2)) (hg : g ≤ 14) (hG : 1 ≤ G ∧ G ≤ 16384) (hGj : ∀ j : Nat, g ≤ j → G ≤ 2 ^ j) (h2 : ∀ j : Nat, g ≤ j → N * (32768 - 2 ^ j) ≤ 2 * A) (hC2 : (g ≤ 1 ∧ C ≤ 8 * z + 152) ∨ (g ≤ 4 ∧ C ≤ 8 * z + 134) ∨ C ≤ 8 * z + 107 ∨ (g = 0 ∧ G = 1 ∧ 31 ≤ z ∧ C ≤ 8 * z + 161) ∨ (1 ≤ g ∧ 13 ≤ z ∧ C ≤ 8 * z + 152)) : (∀ j : Nat, g ≤ j → j < 13 → 4096 * C + qs_l j A2 N2 ≤ 1150976 + F) ∧ 4096 * C ≤ 1150976 + F := by
  constructor
  · intro j hj1 hj2
    have hjs : j = 0 ∨ j = 1 ∨ j = 2 ∨ j = 3 ∨ j = 4 ∨ j = 5 ∨ j = 6 ∨ j = 7 ∨ j = 8 ∨ j = 9 ∨ j = 10 ∨ j = 11 ∨ j = 12 := by omega
    rcases hjs with rfl | rfl | rfl | rfl | rfl | rfl | rfl | rfl | rfl | rfl | rfl | rfl | rfl
    · show 4096 * C + (798720 * N2 + 6190080 - 122880 * A2) ≤ 1150976 + F
      have g1 : G ≤ 1 := hGj 0 (by omega)
      have g2 : N * (32768 - 1) ≤ 2 * A := h2 0 (by omega)
      rcases hC2 with ⟨hq, hc⟩ | ⟨hq, hc⟩ | hc | hc
      · have u1 : G ≤ 2 := hGj 1 hq
        have u2 : N * (32768 - 2) ≤ 2 * A := h2 1 hq
        clear hF hGj h2
        omega
      · have u1 : G ≤ 16 := hGj 4 hq
        have u2 : N * (32768 - 16) ≤ 2 * A := h2 4 hq
        clear hF hGj h2
        omega
      · clear hF hGj h2
        omega
      · clear hF hGj h2
        omega
    · show 4096 * C + (737280 * N2 + 5713920 - 61440 * A2) ≤ 1150976 + F
      have g1 : G ≤ 2 := hGj 1 (by omega)
      have g2 : N * (32768 - 2) ≤ 2 * A := h2 1 (by omega)
      rcases hC2 with ⟨hq, hc⟩ | ⟨hq, hc⟩ | hc | hc
      · have u1 : G ≤ 2 := hGj 1 hq
        have u2 : N * (32768 - 2) ≤ 2 * A := h2 1 hq
        clear hF hGj h2
        omega
      · have u1 : G ≤ 16 := hGj 4 hq
        have u2 : N * (32768 - 16) ≤ 2 * A := h2 4 hq
        clear hF hGj h2
        omega
      · clear hF hGj h2
        omega
      · clear hF hGj h2
        omega
    · show 4096 * C + (675840 * N2 + 5237760 - 30720 * A2) ≤ 1150976 + F
      have g1 : G ≤ 4 := hGj 2 (by omega)
      have g2 : N * (32768 - 4) ≤ 2 * A := h2 2 (by omega)
      rcases hC2 with ⟨hq, hc⟩ | ⟨hq, hc⟩ | hc | hc
      · have u1 : G ≤ 2 := hGj 1 hq
        have u2 : N * (32768 - 2) ≤ 2 * A := h2 1 hq
        clear hF hGj h2
        omega
      · have u1 : G ≤ 16 := hGj 4 hq
        have u2 : N * (32768 - 16) ≤ 2 * A := h2 4 hq
        clear hF hGj h2
        omega
      · clear hF hGj h2
        omega
      · clear hF hGj h2
        omega
    · show 4096 * C + (614400 * N2 + 4761600 - 15360 * A2) ≤ 1150976 + F
      have g1 : G ≤ 8 := hGj 3 (by omega)
      have g2 : N * (32768 - 8) ≤ 2 * A := h2 3 (by omega)
      rcases hC2 with ⟨hq, hc⟩ | ⟨hq, hc⟩ | hc | hc
      · have u1 : G ≤ 2 := hGj 1 hq
        have u2 : N * (32768 - 2) ≤ 2 * A := h2 1 hq
        clear hF hGj h2
        omega
      · have u1 : G ≤ 16 := hGj 4 hq
        have u2 : N * (32768 - 16) ≤ 2 * A := h2 4 hq
        clear hF hGj h2
        omega
      · clear hF hGj h2
        omega
      · clear hF hGj h2
        omega
    · show 4096 * C + (552960 * N2 + 4285440 - 7680 * A2) ≤ 1150976 + F
      have g1 : G ≤ 16 := hGj 4 (by omega)
      have g2 : N * (32768 - 16) ≤ 2 * A := h2 4 (by omega)
      rcases hC2 with ⟨hq, hc⟩ | ⟨hq, hc⟩ | hc | hc
      · have u1 : G ≤ 2 := hGj 1 hq
        have u2 : N * (32768 - 2) ≤ 2 * A := h2 1 hq
        clear hF hGj h2
        omega
      · have u1 : G ≤ 16 := hGj 4 hq
        have u2 : N * (32768 - 16) ≤ 2 * A := h2 4 hq
        clear hF hGj h2
        omega
      · clear hF hGj h2
        omega
      · clear hF hGj h2
        omega
    · show 4096 * C + (491520 * N2 + 3809280 - 3840 * A2) ≤ 1150976 + F
      have g1 : G ≤ 32 := hGj 5 (by omega)
      have g2 : N * (32768 - 32) ≤ 2 * A := h2 5 (by omega)
      rcases hC2 with ⟨hq, hc⟩ | ⟨hq, hc⟩ | hc | hc
      · have u1 : G ≤ 2 := hGj 1 hq
        have u2 : N * (32768 - 2) ≤ 2 * A := h2 1 hq
        clear hF hGj h2
        omega
      · have u1 : G ≤ 16 := hGj 4 hq
        have u2 : N * (32768 - 16) ≤ 2 * A := h2 4 hq
        clear hF hGj h2
        omega
      · clear hF hGj h2
        omega
      · clear hF hGj h2
        omega
    · show 4096 * C + (430080 * N2 + 3333120 - 1920 * A2) ≤ 1150976 + F
      have g1 : G ≤ 64 := hGj 6 (by omega)
      have g2 : N * (32768 - 64) ≤ 2 * A := h2 6 (by omega)
      rcases hC2 with ⟨hq, hc⟩ | ⟨hq, hc⟩ | hc | hc
      · have u1 : G ≤ 2 := hGj 1 hq
        have u2 : N * (32768 - 2) ≤ 2 * A := h2 1 hq
        clear hF hGj h2
        omega
      · have u1 : G ≤ 16 := hGj 4 hq
        have u2 : N * (32768 - 16) ≤ 2 * A := h2 4 hq
        clear hF hGj h2
        omega
      · clear hF hGj h2
        omega
      · clear hF hGj h2
        omega
    · show 4096 * C + (368640 * N2 + 2856960 - 960 * A2) ≤ 1150976 + F
      have g1 : G ≤ 128 := hGj 7 (by omega)
      have g2 : N * (32768 - 128) ≤ 2 * A := h2 7 (by omega)
      rcases hC2 with ⟨hq, hc⟩ | ⟨hq, hc⟩ | hc | hc
      · have u1 : G ≤ 2 := hGj 1 hq
        have u2 : N * (32768 - 2) ≤ 2 * A := h2 1 hq
        clear hF hGj h2
        omega
      · have u1 : G ≤ 16 := hGj 4 hq
        have u2 : N * (32768 - 16) ≤ 2 * A := h2 4 hq
        clear hF hGj h2
        omega
      · clear hF hGj h2
        omega
      · clear hF hGj h2
        omega
    · show 4096 * C + (307200 * N2 + 2380800 - 480 * A2) ≤ 1150976 + F
      have g1 : G ≤ 256 := hGj 8 (by omega)
      have g2 : N * (32768 - 256) ≤ 2 * A := h2 8 (by omega)
      rcases hC2 with ⟨hq, hc⟩ | ⟨hq, hc⟩ | hc | hc
      · have u1 : G ≤ 2 := hGj 1 hq
        have u2 : N * (32768 - 2) ≤ 2 * A := h2 1 hq
        clear hF hGj h2
        omega
      · have u1 : G ≤ 16 := hGj 4 hq
        have u2 : N * (32768 - 16) ≤ 2 * A := h2 4 hq
        clear hF hGj h2
        omega
      · clear hF hGj h2
        omega
      · clear hF hGj h2
        omega
    · show 4096 * C + (245760 * N2 + 1904640 - 240 * A2) ≤ 1150976 + F
      have g1 : G ≤ 512 := hGj 9 (by omega)
      have g2 : N * (32768 - 512) ≤ 2 * A := h2 9 (by omega)
      rcases hC2 with ⟨hq, hc⟩ | ⟨hq, hc⟩ | hc | hc
      · have u1 : G ≤ 2 := hGj 1 hq
        have u2 : N * (32768 - 2) ≤ 2 * A := h2 1 hq
        clear hF hGj h2
        omega
      · have u1 : G ≤ 16 := hGj 4 hq
        have u2 : N * (32768 - 16) ≤ 2 * A := h2 4 hq
        clear hF hGj h2
        omega
      · clear hF hGj h2
        omega
      · clear hF hGj h2
        omega
    · show 4096 * C + (184320 * N2 + 1428480 - 120 * A2) ≤ 1150976 + F
      have g1 : G ≤ 1024 := hGj 10 (by omega)
      have g2 : N * (32768 - 1024) ≤ 2 * A := h2 10 (by omega)
      rcases hC2 with ⟨hq, hc⟩ | ⟨hq, hc⟩ | hc | hc
      · have u1 : G ≤ 2 := hGj 1 hq
        have u2 : N * (32768 - 2) ≤ 2 * A := h2 1 hq
        clear hF hGj h2
        omega
      · have u1 : G ≤ 16 := hGj 4 hq
        have u2 : N * (32768 - 16) ≤ 2 * A := h2 4 hq
        clear hF hGj h2
        omega
      · clear hF hGj h2
        omega
      · clear hF hGj h2
        omega
    · show 4096 * C + (122880 * N2 + 952320 - 60 * A2) ≤ 1150976 + F
      have g1 : G ≤ 2048 := hGj 11 (by omega)
      have g2 : N * (32768 - 2048) ≤ 2 * A := h2 11 (by omega)
      rcases hC2 with ⟨hq, hc⟩ | ⟨hq, hc⟩ | hc | hc
      · have u1 : G ≤ 2 := hGj 1 hq
        have u2 : N * (32768 - 2) ≤ 2 * A := h2 1 hq
        clear hF hGj h2
        omega
      · have u1 : G ≤ 16 := hGj 4 hq
        have u2 : N * (32768 - 16) ≤ 2 * A := h2 4 hq
        clear hF hGj h2
        omega
      · clear hF hGj h2
        omega
      · clear hF hGj h2
        omega
    · show 4096 * C + (61440 * N2 + 476160 - 30 * A2) ≤ 1150976 + F
      have g1 : G ≤ 4096 := hGj 12 (by omega)
      have g2 : N * (32768 - 4096) ≤ 2 * A := h2 12 (by omega)
      rcases hC2 with ⟨hq, hc⟩ | ⟨hq, hc⟩ | hc | hc
      · have u1 : G ≤ 2 := hGj 1 hq
        have u2 : N * (32768 - 2) ≤ 2 * A := h2 1 hq
        clear hF hGj h2
        omega
      · have u1 : G ≤ 16 := hGj 4 hq
        have u2 : N * (32768 - 16) ≤ 2 * A := h2 4 hq
        clear hF hGj h2
        omega
      · clear hF hGj h2
        omega
      · clear hF hGj h2
        omega
  ·
    have g1 : G ≤ 16384 := hGj 14 (by omega)
    have g2 : N * (32768 - 16384) ≤ 2 * A := h2 14 (by omega)
    rcases hC2 with ⟨hq, hc⟩ | ⟨hq, hc⟩ | hc | hc
    · have u1 : G ≤ 2 := hGj 1 hq
      have u2 : N * (32768 - 2) ≤ 2 * A := h2 1 hq
      clear hF hGj h2
      omega
    · have u1 : G ≤ 16 := hGj 4 hq
      have u2 : N * (32768 - 16) ≤ 2 * A := h2 4 hq
      clear hF hGj h2
      omega
    · clear hF hGj h2
      omega
    · clear hF hGj h2
      omega
theorem qs_x16 {g : Nat} {A N E z C F A2 N2 G : Int} (hF0 : 0 ≤ F) (hF : ∀ i : Nat, g ≤ i → i < 13 → qs_l i A N ≤ F) (hN : 1 ≤ N) (hN1 : N = 1 → 512 ≤ A) (hz : 0 ≤ z) (hE : 0 ≤ E) (h1 : A ≤ N * 65536) (h3 : z * 65536 ≤ 65536) (h4 : z * 65536 ≤ 2 * E + G) (hC : C ≤ 529) (hm : (A2 = A + E ∧ N2 = N + 1) ∨ (3 ≤ N ∧ A + E - G ≤ 2 * A2 ∧ 2 * N2 ≤ N + 2)) (hg : g ≤ 15) (hG : 1 ≤ G ∧ G ≤ 32768) (hGj : ∀ j : Nat, g ≤ j → G ≤ 2 ^ j) (h2 : ∀ j : Nat, g ≤ j → N * (65536 - 2 ^ j) ≤ 2 * A) (hC2 : (g ≤ 1 ∧ C ≤ 8 * z + 161) ∨ (g ≤ 4 ∧ C ≤ 8 * z + 143) ∨ C ≤ 8 * z + 116 ∨ (g = 0 ∧ G = 1 ∧ 31 ≤ z ∧ C ≤ 8 * z + 161) ∨ (1 ≤ g ∧ 13 ≤ z ∧ C ≤ 8 * z + 152)) : (∀ j : Nat, g ≤ j → j < 13 → 4096 * C + qs_l j A2 N2 ≤ 1150976 + F) ∧ 4096 * C ≤ 1150976 + F := by
  constructor
  · intro j hj1 hj2
    have hjs : j = 0 ∨ j = 1 ∨ j = 2 ∨ j = 3 ∨ j = 4 ∨ j = 5 ∨ j = 6 ∨ j = 7 ∨ j = 8 ∨ j = 9 ∨ j = 10 ∨ j = 11 ∨ j = 12 := by omega
    rcases hjs with rfl | rfl | rfl | rfl | rfl | rfl | rfl | rfl | rfl | rfl | rfl | rfl | rfl
    · show 4096 * C + (798720 * N2 + 6190080 - 122880 * A2) ≤ 1150976 + F
      have g1 : G ≤ 1 := hGj 0 (by omega)
      have g2 : N * (65536 - 1) ≤ 2 * A := h2 0 (by omega)
      rcases hC2 with ⟨hq, hc⟩ | ⟨hq, hc⟩ | hc | hc
      · have u1 : G ≤ 2 := hGj 1 hq
        have u2 : N * (65536 - 2) ≤ 2 * A := h2 1 hq
        clear hF hGj h2
        omega
      · have u1 : G ≤ 16 := hGj 4 hq
        have u2 : N * (65536 - 16) ≤ 2 * A := h2 4 hq
        clear hF hGj h2
        omega
      · clear hF hGj h2
        omega
      · clear hF hGj h2
        omega
    · show 4096 * C + (737280 * N2 + 5713920 - 61440 * A2) ≤ 1150976 + F
      have g1 : G ≤ 2 := hGj 1 (by omega)
      have g2 : N * (65536 - 2) ≤ 2 * A := h2 1 (by omega)
      rcases hC2 with ⟨hq, hc⟩ | ⟨hq, hc⟩ | hc | hc
      · have u1 : G ≤ 2 := hGj 1 hq
        have u2 : N * (65536 - 2) ≤ 2 * A := h2 1 hq
        clear hF hGj h2
        omega
      · have u1 : G ≤ 16 := hGj 4 hq
        have u2 : N * (65536 - 16) ≤ 2 * A := h2 4 hq
        clear hF hGj h2
        omega
      · clear hF hGj h2
        omega
      · clear hF hGj h2
        omega
    · show 4096 * C + (675840 * N2 + 5237760 - 30720 * A2) ≤ 1150976 + F
      have g1 : G ≤ 4 := hGj 2 (by omega)
      have g2 : N * (65536 - 4) ≤ 2 * A := h2 2 (by omega)
      rcases hC2 with ⟨hq, hc⟩ | ⟨hq, hc⟩ | hc | hc
      · have u1 : G ≤ 2 := hGj 1 hq
        have u2 : N * (65536 - 2) ≤ 2 * A := h2 1 hq
        clear hF hGj h2
        omega
      · have u1 : G ≤ 16 := hGj 4 hq
        have u2 : N * (65536 - 16) ≤ 2 * A := h2 4 hq
        clear hF hGj h2
        omega
      · clear hF hGj h2
        omega
      · clear hF hGj h2
        omega
    · show 4096 * C + (614400 * N2 + 4761600 - 15360 * A2) ≤ 1150976 + F
      have g1 : G ≤ 8 := hGj 3 (by omega)
      have g2 : N * (65536 - 8) ≤ 2 * A := h2 3 (by omega)
      rcases hC2 with ⟨hq, hc⟩ | ⟨hq, hc⟩ | hc | hc
      · have u1 : G ≤ 2 := hGj 1 hq
        have u2 : N * (65536 - 2) ≤ 2 * A := h2 1 hq
        clear hF hGj h2
        omega
      · have u1 : G ≤ 16 := hGj 4 hq
        have u2 : N * (65536 - 16) ≤ 2 * A := h2 4 hq
        clear hF hGj h2
        omega
      · clear hF hGj h2
        omega
      · clear hF hGj h2
        omega
    · show 4096 * C + (552960 * N2 + 4285440 - 7680 * A2) ≤ 1150976 + F
      have g1 : G ≤ 16 := hGj 4 (by omega)
      have g2 : N * (65536 - 16) ≤ 2 * A := h2 4 (by omega)
      rcases hC2 with ⟨hq, hc⟩ | ⟨hq, hc⟩ | hc | hc
      · have u1 : G ≤ 2 := hGj 1 hq
        have u2 : N * (65536 - 2) ≤ 2 * A := h2 1 hq
        clear hF hGj h2
        omega
      · have u1 : G ≤ 16 := hGj 4 hq
        have u2 : N * (65536 - 16) ≤ 2 * A := h2 4 hq
        clear hF hGj h2
        omega
      · clear hF hGj h2
        omega
      · clear hF hGj h2
        omega
    · show 4096 * C + (491520 * N2 + 3809280 - 3840 * A2) ≤ 1150976 + F
      have g1 : G ≤ 32 := hGj 5 (by omega)
      have g2 : N * (65536 - 32) ≤ 2 * A := h2 5 (by omega)
      rcases hC2 with ⟨hq, hc⟩ | ⟨hq, hc⟩ | hc | hc
      · have u1 : G ≤ 2 := hGj 1 hq
        have u2 : N * (65536 - 2) ≤ 2 * A := h2 1 hq
        clear hF hGj h2
        omega
      · have u1 : G ≤ 16 := hGj 4 hq
        have u2 : N * (65536 - 16) ≤ 2 * A := h2 4 hq
        clear hF hGj h2
        omega
      · clear hF hGj h2
        omega
      · clear hF hGj h2
        omega
    · show 4096 * C + (430080 * N2 + 3333120 - 1920 * A2) ≤ 1150976 + F
      have g1 : G ≤ 64 := hGj 6 (by omega)
      have g2 : N * (65536 - 64) ≤ 2 * A := h2 6 (by omega)
      rcases hC2 with ⟨hq, hc⟩ | ⟨hq, hc⟩ | hc | hc
      · have u1 : G ≤ 2 := hGj 1 hq
        have u2 : N * (65536 - 2) ≤ 2 * A := h2 1 hq
        clear hF hGj h2
        omega
      · have u1 : G ≤ 16 := hGj 4 hq
        have u2 : N * (65536 - 16) ≤ 2 * A := h2 4 hq
        clear hF hGj h2
        omega
      · clear hF hGj h2
        omega
      · clear hF hGj h2
        omega
    · show 4096 * C + (368640 * N2 + 2856960 - 960 * A2) ≤ 1150976 + F
      have g1 : G ≤ 128 := hGj 7 (by omega)
      have g2 : N * (65536 - 128) ≤ 2 * A := h2 7 (by omega)
      rcases hC2 with ⟨hq, hc⟩ | ⟨hq, hc⟩ | hc | hc
      · have u1 : G ≤ 2 := hGj 1 hq
        have u2 : N * (65536 - 2) ≤ 2 * A := h2 1 hq
        clear hF hGj h2
        omega
      · have u1 : G ≤ 16 := hGj 4 hq
        have u2 : N * (65536 - 16) ≤ 2 * A := h2 4 hq
        clear hF hGj h2
        omega
      · clear hF hGj h2
        omega
      · clear hF hGj h2
        omega
    · show 4096 * C + (307200 * N2 + 2380800 - 480 * A2) ≤ 1150976 + F
      have g1 : G ≤ 256 := hGj 8 (by omega)
      have g2 : N * (65536 - 256) ≤ 2 * A := h2 8 (by omega)
      rcases hC2 with ⟨hq, hc⟩ | ⟨hq, hc⟩ | hc | hc
      · have u1 : G ≤ 2 := hGj 1 hq
        have u2 : N * (65536 - 2) ≤ 2 * A := h2 1 hq
        clear hF hGj h2
        omega
      · have u1 : G ≤ 16 := hGj 4 hq
        have u2 : N * (65536 - 16) ≤ 2 * A := h2 4 hq
        clear hF hGj h2
        omega
      · clear hF hGj h2
        omega
      · clear hF hGj h2
        omega
    · show 4096 * C + (245760 * N2 + 1904640 - 240 * A2) ≤ 1150976 + F
      have g1 : G ≤ 512 := hGj 9 (by omega)
      have g2 : N * (65536 - 512) ≤ 2 * A := h2 9 (by omega)
      rcases hC2 with ⟨hq, hc⟩ | ⟨hq, hc⟩ | hc | hc
      · have u1 : G ≤ 2 := hGj 1 hq
        have u2 : N * (65536 - 2) ≤ 2 * A := h2 1 hq
        clear hF hGj h2
        omega
      · have u1 : G ≤ 16 := hGj 4 hq
        have u2 : N * (65536 - 16) ≤ 2 * A := h2 4 hq
        clear hF hGj h2
        omega
      · clear hF hGj h2
        omega
      · clear hF hGj h2
        omega
    · show 4096 * C + (184320 * N2 + 1428480 - 120 * A2) ≤ 1150976 + F
      have g1 : G ≤ 1024 := hGj 10 (by omega)
      have g2 : N * (65536 - 1024) ≤ 2 * A := h2 10 (by omega)
      rcases hC2 with ⟨hq, hc⟩ | ⟨hq, hc⟩ | hc | hc
      · have u1 : G ≤ 2 := hGj 1 hq
        have u2 : N * (65536 - 2) ≤ 2 * A := h2 1 hq
        clear hF hGj h2
        omega
      · have u1 : G ≤ 16 := hGj 4 hq
        have u2 : N * (65536 - 16) ≤ 2 * A := h2 4 hq
        clear hF hGj h2
        omega
      · clear hF hGj h2
        omega
      · clear hF hGj h2
        omega
    · show 4096 * C + (122880 * N2 + 952320 - 60 * A2) ≤ 1150976 + F
      have g1 : G ≤ 2048 := hGj 11 (by omega)
      have g2 : N * (65536 - 2048) ≤ 2 * A := h2 11 (by omega)
      rcases hC2 with ⟨hq, hc⟩ | ⟨hq, hc⟩ | hc | hc
      · have u1 : G ≤ 2 := hGj 1 hq
        have u2 : N * (65536 - 2) ≤ 2 * A := h2 1 hq
        clear hF hGj h2
        omega
      · have u1 : G ≤ 16 := hGj 4 hq
        have u2 : N * (65536 - 16) ≤ 2 * A := h2 4 hq
        clear hF hGj h2
        omega
      · clear hF hGj h2
        omega
      · clear hF hGj h2
        omega
    · show 4096 * C + (61440 * N2 + 476160 - 30 * A2) ≤ 1150976 + F
      have g1 : G ≤ 4096 := hGj 12 (by omega)
      have g2 : N * (65536 - 4096) ≤ 2 * A := h2 12 (by omega)
      rcases hC2 with ⟨hq, hc⟩ | ⟨hq, hc⟩ | hc | hc
      · have u1 : G ≤ 2 := hGj 1 hq
        have u2 : N * (65536 - 2) ≤ 2 * A := h2 1 hq
        clear hF hGj h2
        omega
      · have u1 : G ≤ 16 := hGj 4 hq
        have u2 : N * (65536 - 16) ≤ 2 * A := h2 4 hq
        clear hF hGj h2
        omega
      · clear hF hGj h2
        omega
      · clear hF hGj h2
        omega
  ·
    have g1 : G ≤ 32768 := hGj 15 (by omega)
    have g2 : N * (65536 - 32768) ≤ 2 * A := h2 15 (by omega)
    rcases hC2 with ⟨hq, hc⟩ | ⟨hq, hc⟩ | hc | hc
    · have u1 : G ≤ 2 := hGj 1 hq
      have u2 : N * (65536 - 2) ≤ 2 * A := h2 1 hq
      clear hF hGj h2
      omega
    · have u1 : G ≤ 16 := hGj 4 hq
      have u2 : N * (65536 - 16) ≤ 2 * A := h2 4 hq
      clear hF hGj h2
      omega
    · clear hF hGj h2
      omega
    · clear hF hGj h2
      omega
theorem qs_z0 {g : Nat} {A N E z C F A2 N2 G : Int} (hF0 : 0 ≤ F) (hF : ∀ i : Nat, g ≤ i → i < 13 → qs_l i A N ≤ F) (hN : 1 ≤ N) (hN1 : N = 1 → 512 ≤ A) (hz : 0 ≤ z) (hE : 0 ≤ E) (h1 : A ≤ N * 1) (h3 : z * 1 ≤ 65536) (h4 : z * 1 ≤ 2 * E + G) (hC : C ≤ 529) (hm : (A2 = A + E ∧ N2 = N + 1) ∨ (3 ≤ N ∧ A + E - G ≤ 2 * A2 ∧ 2 * N2 ≤ N + 2)) (hg : g = 0) (hG : G = 1) (hC2 : C ≤ 8 * z + 17 ∨ (g = 0 ∧ G = 1 ∧ 31 ≤ z ∧ C ≤ 8 * z + 161) ∨ (1 ≤ g ∧ 13 ≤ z ∧ C ≤ 8 * z + 152)) : (∀ j : Nat, g ≤ j → j < 13 → 4096 * C + qs_l j A2 N2 ≤ 1150976 + F) ∧ 4096 * C ≤ 1150976 + F := by
  constructor
  · intro j hj1 hj2
    have hjs : j = 0 ∨ j = 1 ∨ j = 2 ∨ j = 3 ∨ j = 4 ∨ j = 5 ∨ j = 6 ∨ j = 7 ∨ j = 8 ∨ j = 9 ∨ j = 10 ∨ j = 11 ∨ j = 12 := by omega
    rcases hjs with rfl | rfl | rfl | rfl | rfl | rfl | rfl | rfl | rfl | rfl | rfl | rfl | rfl
    · show 4096 * C + (798720 * N2 + 6190080 - 122880 * A2) ≤ 1150976 + F
      have f0 : 798720 * N + 6190080 - 122880 * A ≤ F := hF 0 (by omega) (by decide)
      clear hF
      omega
    · show 4096 * C + (737280 * N2 + 5713920 - 61440 * A2) ≤ 1150976 + F
      have f0 : 798720 * N + 6190080 - 122880 * A ≤ F := hF 0 (by omega) (by decide)
      have f1 : 737280 * N + 5713920 - 61440 * A ≤ F := hF 1 (by omega) (by decide)
      clear hF
      omega
    · show 4096 * C + (675840 * N2 + 5237760 - 30720 * A2) ≤ 1150976 + F
      have f0 : 798720 * N + 6190080 - 122880 * A ≤ F := hF 0 (by omega) (by decide)
      have f1 : 737280 * N + 5713920 - 61440 * A ≤ F := hF 1 (by omega) (by decide)
      clear hF
      omega
    · show 4096 * C + (614400 * N2 + 4761600 - 15360 * A2) ≤ 1150976 + F
      have f0 : 798720 * N + 6190080 - 122880 * A ≤ F := hF 0 (by omega) (by decide)
      have f2 : 675840 * N + 5237760 - 30720 * A ≤ F := hF 2 (by omega) (by decide)
      clear hF
      omega
    · show 4096 * C + (552960 * N2 + 4285440 - 7680 * A2) ≤ 1150976 + F
      have f1 : 737280 * N + 5713920 - 61440 * A ≤ F := hF 1 (by omega) (by decide)
      have f2 : 675840 * N + 5237760 - 30720 * A ≤ F := hF 2 (by omega) (by decide)
      have f3 : 614400 * N + 4761600 - 15360 * A ≤ F := hF 3 (by omega) (by decide)
      clear hF
      omega
    · show 4096 * C + (491520 * N2 + 3809280 - 3840 * A2) ≤ 1150976 + F
      have f2 : 675840 * N + 5237760 - 30720 * A ≤ F := hF 2 (by omega) (by decide)
      have f3 : 614400 * N + 4761600 - 15360 * A ≤ F := hF 3 (by omega) (by decide)
      clear hF
      omega
    · show 4096 * C + (430080 * N2 + 3333120 - 1920 * A2) ≤ 1150976 + F
      have f3 : 614400 * N + 4761600 - 15360 * A ≤ F := hF 3 (by omega) (by decide)
      have f4 : 552960 * N + 4285440 - 7680 * A ≤ F := hF 4 (by omega) (by decide)
      clear hF
      omega
    · show 4096 * C + (368640 * N2 + 2856960 - 960 * A2) ≤ 1150976 + F
      have f4 : 552960 * N + 4285440 - 7680 * A ≤ F := hF 4 (by omega) (by decide)
      have f5 : 491520 * N + 3809280 - 3840 * A ≤ F := hF 5 (by omega) (by decide)
      clear hF
      omega
    · show 4096 * C + (307200 * N2 + 2380800 - 480 * A2) ≤ 1150976 + F
      have f5 : 491520 * N + 3809280 - 3840 * A ≤ F := hF 5 (by omega) (by decide)
      have f6 : 430080 * N + 3333120 - 1920 * A ≤ F := hF 6 (by omega) (by decide)
      clear hF
      omega
    · show 4096 * C + (245760 * N2 + 1904640 - 240 * A2) ≤ 1150976 + F
      have f6 : 430080 * N + 3333120 - 1920 * A ≤ F := hF 6 (by omega) (by decide)
      have f7 : 368640 * N + 2856960 - 960 * A ≤ F := hF 7 (by omega) (by decide)
      clear hF
      omega
    · show 4096 * C + (184320 * N2 + 1428480 - 120 * A2) ≤ 1150976 + F
      have f7 : 368640 * N + 2856960 - 960 * A ≤ F := hF 7 (by omega) (by decide)
      have f8 : 307200 * N + 2380800 - 480 * A ≤ F := hF 8 (by omega) (by decide)
      clear hF
      omega
    · show 4096 * C + (122880 * N2 + 952320 - 60 * A2) ≤ 1150976 + F
      have f9 : 245760 * N + 1904640 - 240 * A ≤ F := hF 9 (by omega) (by decide)
      clear hF
      omega
    · show 4096 * C + (61440 * N2 + 476160 - 30 * A2) ≤ 1150976 + F
      have f10 : 184320 * N + 1428480 - 120 * A ≤ F := hF 10 (by omega) (by decide)
      clear hF
      omega
  ·
    have f0 : 798720 * N + 6190080 - 122880 * A ≤ F := hF 0 (by omega) (by decide)
    clear hF
    omega
theorem qs_z1 {g : Nat} {A N E z C F A2 N2 G : Int} (hF0 : 0 ≤ F) (hF : ∀ i : Nat, g ≤ i → i < 13 → qs_l i A N ≤ F) (hN : 1 ≤ N) (hN1 : N = 1 → 512 ≤ A) (hz : 0 ≤ z) (hE : 0 ≤ E) (h1 : A ≤ N * 2) (h3 : z * 2 ≤ 65536) (h4 : z * 2 ≤ 2 * E + G) (hC : C ≤ 529) (hm : (A2 = A + E ∧ N2 = N + 1) ∨ (3 ≤ N ∧ A + E - G ≤ 2 * A2 ∧ 2 * N2 ≤ N + 2)) (hg : g = 1) (hG : G = 2) (hC2 : C ≤ 8 * z + 17 ∨ (g = 0 ∧ G = 1 ∧ 31 ≤ z ∧ C ≤ 8 * z + 161) ∨ (1 ≤ g ∧ 13 ≤ z ∧ C ≤ 8 * z + 152)) : (∀ j : Nat, g ≤ j → j < 13 → 4096 * C + qs_l j A2 N2 ≤ 1150976 + F) ∧ 4096 * C ≤ 1150976 + F := by
  constructor
  · intro j hj1 hj2
    have hjs : j = 0 ∨ j = 1 ∨ j = 2 ∨ j = 3 ∨ j = 4 ∨ j = 5 ∨ j = 6 ∨ j = 7 ∨ j = 8 ∨ j = 9 ∨ j = 10 ∨ j = 11 ∨ j = 12 := by omega
    rcases hjs with rfl | rfl | rfl | rfl | rfl | rfl | rfl | rfl | rfl | rfl | rfl | rfl | rfl
    · exact absurd hj1 (by omega)
    · show 4096 * C + (737280 * N2 + 5713920 - 61440 * A2) ≤ 1150976 + F
      have f1 : 737280 * N + 5713920 - 61440 * A ≤ F := hF 1 (by omega) (by decide)
      clear hF
      omega
    · show 4096 * C + (675840 * N2 + 5237760 - 30720 * A2) ≤ 1150976 + F
      have f1 : 737280 * N + 5713920 - 61440 * A ≤ F := hF 1 (by omega) (by decide)
      have f2 : 675840 * N + 5237760 - 30720 * A ≤ F := hF 2 (by omega) (by decide)
      clear hF
      omega
    · show 4096 * C + (614400 * N2 + 4761600 - 15360 * A2) ≤ 1150976 + F
      have f1 : 737280 * N + 5713920 - 61440 * A ≤ F := hF 1 (by omega) (by decide)
      have f2 : 675840 * N + 5237760 - 30720 * A ≤ F := hF 2 (by omega) (by decide)
      clear hF
      omega
    · show 4096 * C + (552960 * N2 + 4285440 - 7680 * A2) ≤ 1150976 + F
      have f1 : 737280 * N + 5713920 - 61440 * A ≤ F := hF 1 (by omega) (by decide)
      have f2 : 675840 * N + 5237760 - 30720 * A ≤ F := hF 2 (by omega) (by decide)
      have f3 : 614400 * N + 4761600 - 15360 * A ≤ F := hF 3 (by omega) (by decide)
      clear hF
      omega
    · show 4096 * C + (491520 * N2 + 3809280 - 3840 * A2) ≤ 1150976 + F
      have f2 : 675840 * N + 5237760 - 30720 * A ≤ F := hF 2 (by omega) (by decide)
      have f3 : 614400 * N + 4761600 - 15360 * A ≤ F := hF 3 (by omega) (by decide)
      clear hF
      omega
    · show 4096 * C + (430080 * N2 + 3333120 - 1920 * A2) ≤ 1150976 + F
      have f3 : 614400 * N + 4761600 - 15360 * A ≤ F := hF 3 (by omega) (by decide)
      have f4 : 552960 * N + 4285440 - 7680 * A ≤ F := hF 4 (by omega) (by decide)
      clear hF
      omega
    · show 4096 * C + (368640 * N2 + 2856960 - 960 * A2) ≤ 1150976 + F
      have f4 : 552960 * N + 4285440 - 7680 * A ≤ F := hF 4 (by omega) (by decide)
      have f5 : 491520 * N + 3809280 - 3840 * A ≤ F := hF 5 (by omega) (by decide)
      clear hF
      omega
    · show 4096 * C + (307200 * N2 + 2380800 - 480 * A2) ≤ 1150976 + F
      have f5 : 491520 * N + 3809280 - 3840 * A ≤ F := hF 5 (by omega) (by decide)
      have f6 : 430080 * N + 3333120 - 1920 * A ≤ F := hF 6 (by omega) (by decide)
      clear hF
      omega
    · show 4096 * C + (245760 * N2 + 1904640 - 240 * A2) ≤ 1150976 + F
      have f6 : 430080 * N + 3333120 - 1920 * A ≤ F := hF 6 (by omega) (by decide)
      have f7 : 368640 * N + 2856960 - 960 * A ≤ F := hF 7 (by omega) (by decide)
      clear hF
      omega
    · show 4096 * C + (184320 * N2 + 1428480 - 120 * A2) ≤ 1150976 + F
      have f8 : 307200 * N + 2380800 - 480 * A ≤ F := hF 8 (by omega) (by decide)
      clear hF
      omega
    · show 4096 * C + (122880 * N2 + 952320 - 60 * A2) ≤ 1150976 + F
      have f9 : 245760 * N + 1904640 - 240 * A ≤ F := hF 9 (by omega) (by decide)
      clear hF
      omega
    · show 4096 * C + (61440 * N2 + 476160 - 30 * A2) ≤ 1150976 + F
      have f10 : 184320 * N + 1428480 - 120 * A ≤ F := hF 10 (by omega) (by decide)
      clear hF
      omega
  ·
    have f1 : 737280 * N + 5713920 - 61440 * A ≤ F := hF 1 (by omega) (by decide)
    clear hF
    omega
theorem qs_z2 {g : Nat} {A N E z C F A2 N2 G : Int} (hF0 : 0 ≤ F) (hF : ∀ i : Nat, g ≤ i → i < 13 → qs_l i A N ≤ F) (hN : 1 ≤ N) (hN1 : N = 1 → 512 ≤ A) (hz : 0 ≤ z) (hE : 0 ≤ E) (h1 : A ≤ N * 4) (h3 : z * 4 ≤ 65536) (h4 : z * 4 ≤ 2 * E + G) (hC : C ≤ 529) (hm : (A2 = A + E ∧ N2 = N + 1) ∨ (3 ≤ N ∧ A + E - G ≤ 2 * A2 ∧ 2 * N2 ≤ N + 2)) (hg : g = 2) (hG : G = 4) (hC2 : C ≤ 8 * z + 17 ∨ (g = 0 ∧ G = 1 ∧ 31 ≤ z ∧ C ≤ 8 * z + 161) ∨ (1 ≤ g ∧ 13 ≤ z ∧ C ≤ 8 * z + 152)) : (∀ j : Nat, g ≤ j → j < 13 → 4096 * C + qs_l j A2 N2 ≤ 1150976 + F) ∧ 4096 * C ≤ 1150976 + F := by
  constructor
  · intro j hj1 hj2
    have hjs : j = 0 ∨ j = 1 ∨ j = 2 ∨ j = 3 ∨ j = 4 ∨ j = 5 ∨ j = 6 ∨ j = 7 ∨ j = 8 ∨ j = 9 ∨ j = 10 ∨ j = 11 ∨ j = 12 := by omega
    rcases hjs with rfl | rfl | rfl | rfl | rfl | rfl | rfl | rfl | rfl | rfl | rfl | rfl | rfl
    · exact absurd hj1 (by omega)
    · exact absurd hj1 (by omega)
    · show 4096 * C + (675840 * N2 + 5237760 - 30720 * A2) ≤ 1150976 + F
      have f2 : 675840 * N + 5237760 - 30720 * A ≤ F := hF 2 (by omega) (by decide)
      clear hF
      omega
    · show 4096 * C + (614400 * N2 + 4761600 - 15360 * A2) ≤ 1150976 + F
      have f2 : 675840 * N + 5237760 - 30720 * A ≤ F := hF 2 (by omega) (by decide)
      have f3 : 614400 * N + 4761600 - 15360 * A ≤ F := hF 3 (by omega) (by decide)
      clear hF
      omega
    · show 4096 * C + (552960 * N2 + 4285440 - 7680 * A2) ≤ 1150976 + F
      have f2 : 675840 * N + 5237760 - 30720 * A ≤ F := hF 2 (by omega) (by decide)
      have f3 : 614400 * N + 4761600 - 15360 * A ≤ F := hF 3 (by omega) (by decide)
      clear hF
      omega
    · show 4096 * C + (491520 * N2 + 3809280 - 3840 * A2) ≤ 1150976 + F
      have f2 : 675840 * N + 5237760 - 30720 * A ≤ F := hF 2 (by omega) (by decide)
      have f3 : 614400 * N + 4761600 - 15360 * A ≤ F := hF 3 (by omega) (by decide)
      have f4 : 552960 * N + 4285440 - 7680 * A ≤ F := hF 4 (by omega) (by decide)
      clear hF
      omega
    · show 4096 * C + (430080 * N2 + 3333120 - 1920 * A2) ≤ 1150976 + F
      have f3 : 614400 * N + 4761600 - 15360 * A ≤ F := hF 3 (by omega) (by decide)
      have f4 : 552960 * N + 4285440 - 7680 * A ≤ F := hF 4 (by omega) (by decide)
      clear hF
      omega
    · show 4096 * C + (368640 * N2 + 2856960 - 960 * A2) ≤ 1150976 + F
      have f4 : 552960 * N + 4285440 - 7680 * A ≤ F := hF 4 (by omega) (by decide)
      have f5 : 491520 * N + 3809280 - 3840 * A ≤ F := hF 5 (by omega) (by decide)
      clear hF
      omega
    · show 4096 * C + (307200 * N2 + 2380800 - 480 * A2) ≤ 1150976 + F
      have f5 : 491520 * N + 3809280 - 3840 * A ≤ F := hF 5 (by omega) (by decide)
      have f6 : 430080 * N + 3333120 - 1920 * A ≤ F := hF 6 (by omega) (by decide)
      clear hF
      omega
    · show 4096 * C + (245760 * N2 + 1904640 - 240 * A2) ≤ 1150976 + F
      have f6 : 430080 * N + 3333120 - 1920 * A ≤ F := hF 6 (by omega) (by decide)
      have f7 : 368640 * N + 2856960 - 960 * A ≤ F := hF 7 (by omega) (by decide)
      clear hF
      omega
    · show 4096 * C + (184320 * N2 + 1428480 - 120 * A2) ≤ 1150976 + F
      have f8 : 307200 * N + 2380800 - 480 * A ≤ F := hF 8 (by omega) (by decide)
      clear hF
      omega
    · show 4096 * C + (122880 * N2 + 952320 - 60 * A2) ≤ 1150976 + F
      have f9 : 245760 * N + 1904640 - 240 * A ≤ F := hF 9 (by omega) (by decide)
      clear hF
      omega
    · show 4096 * C + (61440 * N2 + 476160 - 30 * A2) ≤ 1150976 + F
      have f10 : 184320 * N + 1428480 - 120 * A ≤ F := hF 10 (by omega) (by decide)
      clear hF
      omega
  ·
    have f2 : 675840 * N + 5237760 - 30720 * A ≤ F := hF 2 (by omega) (by decide)
    clear hF
    omega
theorem qs_z3 {g : Nat} {A N E z C F A2 N2 G : Int} (hF0 : 0 ≤ F) (hF : ∀ i : Nat, g ≤ i → i < 13 → qs_l i A N ≤ F) (hN : 1 ≤ N) (hN1 : N = 1 → 512 ≤ A) (hz : 0 ≤ z) (hE : 0 ≤ E) (h1 : A ≤ N * 8) (h3 : z * 8 ≤ 65536) (h4 : z * 8 ≤ 2 * E + G) (hC : C ≤ 529) (hm : (A2 = A + E ∧ N2 = N + 1) ∨ (3 ≤ N ∧ A + E - G ≤ 2 * A2 ∧ 2 * N2 ≤ N + 2)) (hg : g = 3) (hG : G = 8) (hC2 : C ≤ 8 * z + 17 ∨ (g = 0 ∧ G = 1 ∧ 31 ≤ z ∧ C ≤ 8 * z + 161) ∨ (1 ≤ g ∧ 13 ≤ z ∧ C ≤ 8 * z + 152)) : (∀ j : Nat, g ≤ j → j < 13 → 4096 * C + qs_l j A2 N2 ≤ 1150976 + F) ∧ 4096 * C ≤ 1150976 + F := by
  constructor
  · intro j hj1 hj2
    have hjs : j = 0 ∨ j = 1 ∨ j = 2 ∨ j = 3 ∨ j = 4 ∨ j = 5 ∨ j = 6 ∨ j = 7 ∨ j = 8 ∨ j = 9 ∨ j = 10 ∨ j = 11 ∨ j = 12 := by omega
    rcases hjs with rfl | rfl | rfl | rfl | rfl | rfl | rfl | rfl | rfl | rfl | rfl | rfl | rfl
    · exact absurd hj1 (by omega)
    · exact absurd hj1 (by omega)
    · exact absurd hj1 (by omega)
    · show 4096 * C + (614400 * N2 + 4761600 - 15360 * A2) ≤ 1150976 + F
      have f3 : 614400 * N + 4761600 - 15360 * A ≤ F := hF 3 (by omega) (by decide)
      clear hF
      omega
    · show 4096 * C + (552960 * N2 + 4285440 - 7680 * A2) ≤ 1150976 + F
      have f3 : 614400 * N + 4761600 - 15360 * A ≤ F := hF 3 (by omega) (by decide)
      have f4 : 552960 * N + 4285440 - 7680 * A ≤ F := hF 4 (by omega) (by decide)
      clear hF
      omega
    · show 4096 * C + (491520 * N2 + 3809280 - 3840 * A2) ≤ 1150976 + F
      have f3 : 614400 * N + 4761600 - 15360 * A ≤ F := hF 3 (by omega) (by decide)
      have f4 : 552960 * N + 4285440 - 7680 * A ≤ F := hF 4 (by omega) (by decide)
      clear hF
      omega
    · show 4096 * C + (430080 * N2 + 3333120 - 1920 * A2) ≤ 1150976 + F
      have f4 : 552960 * N + 4285440 - 7680 * A ≤ F := hF 4 (by omega) (by decide)
      have f5 : 491520 * N + 3809280 - 3840 * A ≤ F := hF 5 (by omega) (by decide)
      clear hF
      omega
    · show 4096 * C + (368640 * N2 + 2856960 - 960 * A2) ≤ 1150976 + F
      have f4 : 552960 * N + 4285440 - 7680 * A ≤ F := hF 4 (by omega) (by decide)
      have f5 : 491520 * N + 3809280 - 3840 * A ≤ F := hF 5 (by omega) (by decide)
      clear hF
      omega
    · show 4096 * C + (307200 * N2 + 2380800 - 480 * A2) ≤ 1150976 + F
      have f5 : 491520 * N + 3809280 - 3840 * A ≤ F := hF 5 (by omega) (by decide)
      have f6 : 430080 * N + 3333120 - 1920 * A ≤ F := hF 6 (by omega) (by decide)
      clear hF
      omega
    · show 4096 * C + (245760 * N2 + 1904640 - 240 * A2) ≤ 1150976 + F
      have f6 : 430080 * N + 3333120 - 1920 * A ≤ F := hF 6 (by omega) (by decide)
      have f7 : 368640 * N + 2856960 - 960 * A ≤ F := hF 7 (by omega) (by decide)
      clear hF
      omega
    · show 4096 * C + (184320 * N2 + 1428480 - 120 * A2) ≤ 1150976 + F
      have f8 : 307200 * N + 2380800 - 480 * A ≤ F := hF 8 (by omega) (by decide)
      clear hF
      omega
    · show 4096 * C + (122880 * N2 + 952320 - 60 * A2) ≤ 1150976 + F
      have f9 : 245760 * N + 1904640 - 240 * A ≤ F := hF 9 (by omega) (by decide)
      clear hF
      omega
    · show 4096 * C + (61440 * N2 + 476160 - 30 * A2) ≤ 1150976 + F
      have f10 : 184320 * N + 1428480 - 120 * A ≤ F := hF 10 (by omega) (by decide)
      clear hF
      omega
  ·
    have f3 : 614400 * N + 4761600 - 15360 * A ≤ F := hF 3 (by omega) (by decide)
    clear hF
    omega
theorem qs_z4 {g : Nat} {A N E z C F A2 N2 G : Int} (hF0 : 0 ≤ F) (hF : ∀ i : Nat, g ≤ i → i < 13 → qs_l i A N ≤ F) (hN : 1 ≤ N) (hN1 : N = 1 → 512 ≤ A) (hz : 0 ≤ z) (hE : 0 ≤ E) (h1 : A ≤ N * 16) (h3 : z * 16 ≤ 65536) (h4 : z * 16 ≤ 2 * E + G) (hC : C ≤ 529) (hm : (A2 = A + E ∧ N2 = N + 1) ∨ (3 ≤ N ∧ A + E - G ≤ 2 * A2 ∧ 2 * N2 ≤ N + 2)) (hg : g = 4) (hG : G = 16) (hC2 : C ≤ 8 * z + 17 ∨ (g = 0 ∧ G = 1 ∧ 31 ≤ z ∧ C ≤ 8 * z + 161) ∨ (1 ≤ g ∧ 13 ≤ z ∧ C ≤ 8 * z + 152)) : (∀ j : Nat, g ≤ j → j < 13 → 4096 * C + qs_l j A2 N2 ≤ 1150976 + F) ∧ 4096 * C ≤ 1150976 + F := by
  constructor
  · intro j hj1 hj2
    have hjs : j = 0 ∨ j = 1 ∨ j = 2 ∨ j = 3 ∨ j = 4 ∨ j = 5 ∨ j = 6 ∨ j = 7 ∨ j = 8 ∨ j = 9 ∨ j = 10 ∨ j = 11 ∨ j = 12 := by omega
    rcases hjs with rfl | rfl | rfl | rfl | rfl | rfl | rfl | rfl | rfl | rfl | rfl | rfl | rfl
    · exact absurd hj1 (by omega)
    · exact absurd hj1 (by omega)
    · exact absurd hj1 (by omega)
    · exact absurd hj1 (by omega)
    · show 4096 * C + (552960 * N2 + 4285440 - 7680 * A2) ≤ 1150976 + F
      have f4 : 552960 * N + 4285440 - 7680 * A ≤ F := hF 4 (by omega) (by decide)
      clear hF
      omega
    · show 4096 * C + (491520 * N2 + 3809280 - 3840 * A2) ≤ 1150976 + F
      have f4 : 552960 * N + 4285440 - 7680 * A ≤ F := hF 4 (by omega) (by decide)
      have f5 : 491520 * N + 3809280 - 3840 * A ≤ F := hF 5 (by omega) (by decide)
      clear hF
      omega
    · show 4096 * C + (430080 * N2 + 3333120 - 1920 * A2) ≤ 1150976 + F
      have f4 : 552960 * N + 4285440 - 7680 * A ≤ F := hF 4 (by omega) (by decide)
      have f5 : 491520 * N + 3809280 - 3840 * A ≤ F := hF 5 (by omega) (by decide)
      clear hF
      omega
    · show 4096 * C + (368640 * N2 + 2856960 - 960 * A2) ≤ 1150976 + F
      have f5 : 491520 * N + 3809280 - 3840 * A ≤ F := hF 5 (by omega) (by decide)
      clear hF
      omega
    · show 4096 * C + (307200 * N2 + 2380800 - 480 * A2) ≤ 1150976 + F
      have f6 : 430080 * N + 3333120 - 1920 * A ≤ F := hF 6 (by omega) (by decide)
      clear hF
      omega
    · show 4096 * C + (245760 * N2 + 1904640 - 240 * A2) ≤ 1150976 + F
      have f7 : 368640 * N + 2856960 - 960 * A ≤ F := hF 7 (by omega) (by decide)
      clear hF
      omega
    · show 4096 * C + (184320 * N2 + 1428480 - 120 * A2) ≤ 1150976 + F
      have f8 : 307200 * N + 2380800 - 480 * A ≤ F := hF 8 (by omega) (by decide)
      clear hF
      omega
    · show 4096 * C + (122880 * N2 + 952320 - 60 * A2) ≤ 1150976 + F
      have f9 : 245760 * N + 1904640 - 240 * A ≤ F := hF 9 (by omega) (by decide)
      clear hF
      omega
    · show 4096 * C + (61440 * N2 + 476160 - 30 * A2) ≤ 1150976 + F
      have f10 : 184320 * N + 1428480 - 120 * A ≤ F := hF 10 (by omega) (by decide)
      clear hF
      omega
  ·
    have f4 : 552960 * N + 4285440 - 7680 * A ≤ F := hF 4 (by omega) (by decide)
    clear hF
    omega
theorem qs_z5 {g : Nat} {A N E z C F A2 N2 G : Int} (hF0 : 0 ≤ F) (hF : ∀ i : Nat, g ≤ i → i < 13 → qs_l i A N ≤ F) (hN : 1 ≤ N) (hN1 : N = 1 → 512 ≤ A) (hz : 0 ≤ z) (hE : 0 ≤ E) (h1 : A ≤ N * 32) (h3 : z * 32 ≤ 65536) (h4 : z * 32 ≤ 2 * E + G) (hC : C ≤ 529) (hm : (A2 = A + E ∧ N2 = N + 1) ∨ (3 ≤ N ∧ A + E - G ≤ 2 * A2 ∧ 2 * N2 ≤ N + 2)) (hg : g = 5) (hG : G = 32) (hC2 : C ≤ 8 * z + 17 ∨ (g = 0 ∧ G = 1 ∧ 31 ≤ z ∧ C ≤ 8 * z + 161) ∨ (1 ≤ g ∧ 13 ≤ z ∧ C ≤ 8 * z + 152)) : (∀ j : Nat, g ≤ j → j < 13 → 4096 * C + qs_l j A2 N2 ≤ 1150976 + F) ∧ 4096 * C ≤ 1150976 + F := by
  constructor
  · intro j hj1 hj2
    have hjs : j = 0 ∨ j = 1 ∨ j = 2 ∨ j = 3 ∨ j = 4 ∨ j = 5 ∨ j = 6 ∨ j = 7 ∨ j = 8 ∨ j = 9 ∨ j = 10 ∨ j = 11 ∨ j = 12 := by omega
    rcases hjs with rfl | rfl | rfl | rfl | rfl | rfl | rfl | rfl | rfl | rfl | rfl | rfl | rfl
    · exact absurd hj1 (by omega)
    · exact absurd hj1 (by omega)
    · exact absurd hj1 (by omega)
    · exact absurd hj1 (by omega)
    · exact absurd hj1 (by omega)
    · show 4096 * C + (491520 * N2 + 3809280 - 3840 * A2) ≤ 1150976 + F
      have f5 : 491520 * N + 3809280 - 3840 * A ≤ F := hF 5 (by omega) (by decide)
      clear hF
      omega
    · show 4096 * C + (430080 * N2 + 3333120 - 1920 * A2) ≤ 1150976 + F
      have f5 : 491520 * N + 3809280 - 3840 * A ≤ F := hF 5 (by omega) (by decide)
      have f6 : 430080 * N + 3333120 - 1920 * A ≤ F := hF 6 (by omega) (by decide)
      clear hF
      omega
    · show 4096 * C + (368640 * N2 + 2856960 - 960 * A2) ≤ 1150976 + F
      have f5 : 491520 * N + 3809280 - 3840 * A ≤ F := hF 5 (by omega) (by decide)
      have f6 : 430080 * N + 3333120 - 1920 * A ≤ F := hF 6 (by omega) (by decide)
      clear hF
      omega
    · show 4096 * C + (307200 * N2 + 2380800 - 480 * A2) ≤ 1150976 + F
      have f6 : 430080 * N + 3333120 - 1920 * A ≤ F := hF 6 (by omega) (by decide)
      clear hF
      omega
    · show 4096 * C + (245760 * N2 + 1904640 - 240 * A2) ≤ 1150976 + F
      have f7 : 368640 * N + 2856960 - 960 * A ≤ F := hF 7 (by omega) (by decide)
      clear hF
      omega
    · show 4096 * C + (184320 * N2 + 1428480 - 120 * A2) ≤ 1150976 + F
      have f8 : 307200 * N + 2380800 - 480 * A ≤ F := hF 8 (by omega) (by decide)
      clear hF
      omega
    · show 4096 * C + (122880 * N2 + 952320 - 60 * A2) ≤ 1150976 + F
      have f9 : 245760 * N + 1904640 - 240 * A ≤ F := hF 9 (by omega) (by decide)
      clear hF
      omega
    · show 4096 * C + (61440 * N2 + 476160 - 30 * A2) ≤ 1150976 + F
      have f10 : 184320 * N + 1428480 - 120 * A ≤ F := hF 10 (by omega) (by decide)
      clear hF
      omega
  ·
    have f5 : 491520 * N + 3809280 - 3840 * A ≤ F := hF 5 (by omega) (by decide)
    clear hF
    omega
theorem qs_z6 {g : Nat} {A N E z C F A2 N2 G : Int} (hF0 : 0 ≤ F) (hF : ∀ i : Nat, g ≤ i → i < 13 → qs_l i A N ≤ F) (hN : 1 ≤ N) (hN1 : N = 1 → 512 ≤ A) (hz : 0 ≤ z) (hE : 0 ≤ E) (h1 : A ≤ N * 64) (h3 : z * 64 ≤ 65536) (h4 : z * 64 ≤ 2 * E + G) (hC : C ≤ 529) (hm : (A2 = A + E ∧ N2 = N + 1) ∨ (3 ≤ N ∧ A + E - G ≤ 2 * A2 ∧ 2 * N2 ≤ N + 2)) (hg : g = 6) (hG : G = 64) (hC2 : C ≤ 8 * z + 17 ∨ (g = 0 ∧ G = 1 ∧ 31 ≤ z ∧ C ≤ 8 * z + 161) ∨ (1 ≤ g ∧ 13 ≤ z ∧ C ≤ 8 * z + 152)) : (∀ j : Nat, g ≤ j → j < 13 → 4096 * C + qs_l j A2 N2 ≤ 1150976 + F) ∧ 4096 * C ≤ 1150976 + F := by
  constructor
  · intro j hj1 hj2
    have hjs : j = 0 ∨ j = 1 ∨ j = 2 ∨ j = 3 ∨ j = 4 ∨ j = 5 ∨ j = 6 ∨ j = 7 ∨ j = 8 ∨ j = 9 ∨ j = 10 ∨ j = 11 ∨ j = 12 := by omega
    rcases hjs with rfl | rfl | rfl | rfl | rfl | rfl | rfl | rfl | rfl | rfl | rfl | rfl | rfl
    · exact absurd hj1 (by omega)
    · exact absurd hj1 (by omega)
    · exact absurd hj1 (by omega)
    · exact absurd hj1 (by omega)
    · exact absurd hj1 (by omega)
    · exact absurd hj1 (by omega)
    · show 4096 * C + (430080 * N2 + 3333120 - 1920 * A2) ≤ 1150976 + F
      have f6 : 430080 * N + 3333120 - 1920 * A ≤ F := hF 6 (by omega) (by decide)
      clear hF
      omega
    · show 4096 * C + (368640 * N2 + 2856960 - 960 * A2) ≤ 1150976 + F
      have f6 : 430080 * N + 3333120 - 1920 * A ≤ F := hF 6 (by omega) (by decide)
      have f7 : 368640 * N + 2856960 - 960 * A ≤ F := hF 7 (by omega) (by decide)
      clear hF
      omega
    · show 4096 * C + (307200 * N2 + 2380800 - 480 * A2) ≤ 1150976 + F
      have f6 : 430080 * N + 3333120 - 1920 * A ≤ F := hF 6 (by omega) (by decide)
      have f7 : 368640 * N + 2856960 - 960 * A ≤ F := hF 7 (by omega) (by decide)
      clear hF
      omega
    · show 4096 * C + (245760 * N2 + 1904640 - 240 * A2) ≤ 1150976 + F
      have f7 : 368640 * N + 2856960 - 960 * A ≤ F := hF 7 (by omega) (by decide)
      clear hF
      omega
    · show 4096 * C + (184320 * N2 + 1428480 - 120 * A2) ≤ 1150976 + F
      have f8 : 307200 * N + 2380800 - 480 * A ≤ F := hF 8 (by omega) (by decide)
      clear hF
      omega
    · show 4096 * C + (122880 * N2 + 952320 - 60 * A2) ≤ 1150976 + F
      have f9 : 245760 * N + 1904640 - 240 * A ≤ F := hF 9 (by omega) (by decide)
      clear hF
      omega
    · show 4096 * C + (61440 * N2 + 476160 - 30 * A2) ≤ 1150976 + F
      have f10 : 184320 * N + 1428480 - 120 * A ≤ F := hF 10 (by omega) (by decide)
      clear hF
      omega
  ·
    have f6 : 430080 * N + 3333120 - 1920 * A ≤ F := hF 6 (by omega) (by decide)
    clear hF
    omega
theorem qs_z7 {g : Nat} {A N E z C F A2 N2 G : Int} (hF0 : 0 ≤ F) (hF : ∀ i : Nat, g ≤ i → i < 13 → qs_l i A N ≤ F) (hN : 1 ≤ N) (hN1 : N = 1 → 512 ≤ A) (hz : 0 ≤ z) (hE : 0 ≤ E) (h1 : A ≤ N * 128) (h3 : z * 128 ≤ 65536) (h4 : z * 128 ≤ 2 * E + G) (hC : C ≤ 529) (hm : (A2 = A + E ∧ N2 = N + 1) ∨ (3 ≤ N ∧ A + E - G ≤ 2 * A2 ∧ 2 * N2 ≤ N + 2)) (hg : g = 7) (hG : G = 128) (hC2 : C ≤ 8 * z + 17 ∨ (g = 0 ∧ G = 1 ∧ 31 ≤ z ∧ C ≤ 8 * z + 161) ∨ (1 ≤ g ∧ 13 ≤ z ∧ C ≤ 8 * z + 152)) : (∀ j : Nat, g ≤ j → j < 13 → 4096 * C + qs_l j A2 N2 ≤ 1150976 + F) ∧ 4096 * C ≤ 1150976 + F := by
  constructor
  · intro j hj1 hj2
    have hjs : j = 0 ∨ j = 1 ∨ j = 2 ∨ j = 3 ∨ j = 4 ∨ j = 5 ∨ j = 6 ∨ j = 7 ∨ j = 8 ∨ j = 9 ∨ j = 10 ∨ j = 11 ∨ j = 12 := by omega
    rcases hjs with rfl | rfl | rfl | rfl | rfl | rfl | rfl | rfl | rfl | rfl | rfl | rfl | rfl
    · exact absurd hj1 (by omega)
    · exact absurd hj1 (by omega)
    · exact absurd hj1 (by omega)
    · exact absurd hj1 (by omega)
    · exact absurd hj1 (by omega)
    · exact absurd hj1 (by omega)
    · exact absurd hj1 (by omega)
    · show 4096 * C + (368640 * N2 + 2856960 - 960 * A2) ≤ 1150976 + F
      have f7 : 368640 * N + 2856960 - 960 * A ≤ F := hF 7 (by omega) (by decide)
      clear hF
      omega
    · show 4096 * C + (307200 * N2 + 2380800 - 480 * A2) ≤ 1150976 + F
      have f7 : 368640 * N + 2856960 - 960 * A ≤ F := hF 7 (by omega) (by decide)
      have f8 : 307200 * N + 2380800 - 480 * A ≤ F := hF 8 (by omega) (by decide)
      clear hF
      omega
    · show 4096 * C + (245760 * N2 + 1904640 - 240 * A2) ≤ 1150976 + F
      have f7 : 368640 * N + 2856960 - 960 * A ≤ F := hF 7 (by omega) (by decide)
      have f8 : 307200 * N + 2380800 - 480 * A ≤ F := hF 8 (by omega) (by decide)
      clear hF
      omega
    · show 4096 * C + (184320 * N2 + 1428480 - 120 * A2) ≤ 1150976 + F
      have f8 : 307200 * N + 2380800 - 480 * A ≤ F := hF 8 (by omega) (by decide)
      clear hF
      omega
    · show 4096 * C + (122880 * N2 + 952320 - 60 * A2) ≤ 1150976 + F
      have f9 : 245760 * N + 1904640 - 240 * A ≤ F := hF 9 (by omega) (by decide)
      clear hF
      omega
    · show 4096 * C + (61440 * N2 + 476160 - 30 * A2) ≤ 1150976 + F
      have f10 : 184320 * N + 1428480 - 120 * A ≤ F := hF 10 (by omega) (by decide)
      clear hF
      omega
  ·
    have f7 : 368640 * N + 2856960 - 960 * A ≤ F := hF 7 (by omega) (by decide)
    clear hF
    omega
theorem qs_z8 {g : Nat} {A N E z C F A2 N2 G : Int} (hF0 : 0 ≤ F) (hF : ∀ i : Nat, g ≤ i → i < 13 → qs_l i A N ≤ F) (hN : 1 ≤ N) (hN1 : N = 1 → 512 ≤ A) (hz : 0 ≤ z) (hE : 0 ≤ E) (h1 : A ≤ N * 256) (h3 : z * 256 ≤ 65536) (h4 : z * 256 ≤ 2 * E + G) (hC : C ≤ 529) (hm : (A2 = A + E ∧ N2 = N + 1) ∨ (3 ≤ N ∧ A + E - G ≤ 2 * A2 ∧ 2 * N2 ≤ N + 2)) (hg : g = 8) (hG : G = 256) (hC2 : C ≤ 8 * z + 17 ∨ (g = 0 ∧ G = 1 ∧ 31 ≤ z ∧ C ≤ 8 * z + 161) ∨ (1 ≤ g ∧ 13 ≤ z ∧ C ≤ 8 * z + 152)) : (∀ j : Nat, g ≤ j → j < 13 → 4096 * C + qs_l j A2 N2 ≤ 1150976 + F) ∧ 4096 * C ≤ 1150976 + F := by
  constructor
  · intro j hj1 hj2
    have hjs : j = 0 ∨ j = 1 ∨ j = 2 ∨ j = 3 ∨ j = 4 ∨ j = 5 ∨ j = 6 ∨ j = 7 ∨ j = 8 ∨ j = 9 ∨ j = 10 ∨ j = 11 ∨ j = 12 := by omega
    rcases hjs with rfl | rfl | rfl | rfl | rfl | rfl | rfl | rfl | rfl | rfl | rfl | rfl | rfl
    · exact absurd hj1 (by omega)
    · exact absurd hj1 (by omega)
    · exact absurd hj1 (by omega)
    · exact absurd hj1 (by omega)
    · exact absurd hj1 (by omega)
    · exact absurd hj1 (by omega)
    · exact absurd hj1 (by omega)
    · exact absurd hj1 (by omega)
    · show 4096 * C + (307200 * N2 + 2380800 - 480 * A2) ≤ 1150976 + F
      have f8 : 307200 * N + 2380800 - 480 * A ≤ F := hF 8 (by omega) (by decide)
      clear hF
      omega
    · show 4096 * C + (245760 * N2 + 1904640 - 240 * A2) ≤ 1150976 + F
      have f8 : 307200 * N + 2380800 - 480 * A ≤ F := hF 8 (by omega) (by decide)
      have f9 : 245760 * N + 1904640 - 240 * A ≤ F := hF 9 (by omega) (by decide)
      clear hF
      omega
    · show 4096 * C + (184320 * N2 + 1428480 - 120 * A2) ≤ 1150976 + F
      have f8 : 307200 * N + 2380800 - 480 * A ≤ F := hF 8 (by omega) (by decide)
      have f9 : 245760 * N + 1904640 - 240 * A ≤ F := hF 9 (by omega) (by decide)
      clear hF
      omega
    · show 4096 * C + (122880 * N2 + 952320 - 60 * A2) ≤ 1150976 + F
      have f9 : 245760 * N + 1904640 - 240 * A ≤ F := hF 9 (by omega) (by decide)
      clear hF
      omega
    · show 4096 * C + (61440 * N2 + 476160 - 30 * A2) ≤ 1150976 + F
      have f10 : 184320 * N + 1428480 - 120 * A ≤ F := hF 10 (by omega) (by decide)
      clear hF
      omega
  ·
    have f8 : 307200 * N + 2380800 - 480 * A ≤ F := hF 8 (by omega) (by decide)
    clear hF
    omega
theorem qs_z9 {g : Nat} {A N E z C F A2 N2 G : Int} (hF0 : 0 ≤ F) (hF : ∀ i : Nat, g ≤ i → i < 13 → qs_l i A N ≤ F) (hN : 1 ≤ N) (hN1 : N = 1 → 512 ≤ A) (hz : 0 ≤ z) (hE : 0 ≤ E) (h1 : A ≤ N * 512) (h3 : z * 512 ≤ 65536) (h4 : z * 512 ≤ 2 * E + G) (hC : C ≤ 529) (hm : (A2 = A + E ∧ N2 = N + 1) ∨ (3 ≤ N ∧ A + E - G ≤ 2 * A2 ∧ 2 * N2 ≤ N + 2)) (hg : g = 9) (hG : G = 512) (hC2 : C ≤ 8 * z + 17 ∨ (g = 0 ∧ G = 1 ∧ 31 ≤ z ∧ C ≤ 8 * z + 161) ∨ (1 ≤ g ∧ 13 ≤ z ∧ C ≤ 8 * z + 152)) : (∀ j : Nat, g ≤ j → j < 13 → 4096 * C + qs_l j A2 N2 ≤ 1150976 + F) ∧ 4096 * C ≤ 1150976 + F := by
  constructor
  · intro j hj1 hj2
    have hjs : j = 0 ∨ j = 1 ∨ j = 2 ∨ j = 3 ∨ j = 4 ∨ j = 5 ∨ j = 6 ∨ j = 7 ∨ j = 8 ∨ j = 9 ∨ j = 10 ∨ j = 11 ∨ j = 12 := by omega
    rcases hjs with rfl | rfl | rfl | rfl | rfl | rfl | rfl | rfl | rfl | rfl | rfl | rfl | rfl
    · exact absurd hj1 (by omega)
    · exact absurd hj1 (by omega)
    · exact absurd hj1 (by omega)
    · exact absurd hj1 (by omega)
    · exact absurd hj1 (by omega)
    · exact absurd hj1 (by omega)
    · exact absurd hj1 (by omega)
    · exact absurd hj1 (by omega)
    · exact absurd hj1 (by omega)
    · show 4096 * C + (245760 * N2 + 1904640 - 240 * A2) ≤ 1150976 + F
      have f9 : 245760 * N + 1904640 - 240 * A ≤ F := hF 9 (by omega) (by decide)
      clear hF
      omega
    · show 4096 * C + (184320 * N2 + 1428480 - 120 * A2) ≤ 1150976 + F
      have f9 : 245760 * N + 1904640 - 240 * A ≤ F := hF 9 (by omega) (by decide)
      have f10 : 184320 * N + 1428480 - 120 * A ≤ F := hF 10 (by omega) (by decide)
      clear hF
      omega
    · show 4096 * C + (122880 * N2 + 952320 - 60 * A2) ≤ 1150976 + F
      have f9 : 245760 * N + 1904640 - 240 * A ≤ F := hF 9 (by omega) (by decide)
      have f10 : 184320 * N + 1428480 - 120 * A ≤ F := hF 10 (by omega) (by decide)
      clear hF
      omega
    · show 4096 * C + (61440 * N2 + 476160 - 30 * A2) ≤ 1150976 + F
      have f10 : 184320 * N + 1428480 - 120 * A ≤ F := hF 10 (by omega) (by decide)
      clear hF
      omega
  ·
    have f9 : 245760 * N + 1904640 - 240 * A ≤ F := hF 9 (by omega) (by decide)
    clear hF
    omega
theorem qs_z10 {g : Nat} {A N E z C F A2 N2 G : Int} (hF0 : 0 ≤ F) (hF : ∀ i : Nat, g ≤ i → i < 13 → qs_l i A N ≤ F) (hN : 1 ≤ N) (hN1 : N = 1 → 512 ≤ A) (hz : 0 ≤ z) (hE : 0 ≤ E) (h1 : A ≤ N * 1024) (h3 : z * 1024 ≤ 65536) (h4 : z * 1024 ≤ 2 * E + G) (hC : C ≤ 529) (hm : (A2 = A + E ∧ N2 = N + 1) ∨ (3 ≤ N ∧ A + E - G ≤ 2 * A2 ∧ 2 * N2 ≤ N + 2)) (hg : g = 10) (hG : G = 1024) (hC2 : C ≤ 8 * z + 17 ∨ (g = 0 ∧ G = 1 ∧ 31 ≤ z ∧ C ≤ 8 * z + 161) ∨ (1 ≤ g ∧ 13 ≤ z ∧ C ≤ 8 * z + 152)) : (∀ j : Nat, g ≤ j → j < 13 → 4096 * C + qs_l j A2 N2 ≤ 1150976 + F) ∧ 4096 * C ≤ 1150976 + F := by
  constructor
  · intro j hj1 hj2
    have hjs : j = 0 ∨ j = 1 ∨ j = 2 ∨ j = 3 ∨ j = 4 ∨ j = 5 ∨ j = 6 ∨ j = 7 ∨ j = 8 ∨ j = 9 ∨ j = 10 ∨ j = 11 ∨ j = 12 := by omega
    rcases hjs with rfl | rfl | rfl | rfl | rfl | rfl | rfl | rfl | rfl | rfl | rfl | rfl | rfl
    · exact absurd hj1 (by omega)
    · exact absurd hj1 (by omega)
    · exact absurd hj1 (by omega)
    · exact absurd hj1 (by omega)
    · exact absurd hj1 (by omega)
    · exact absurd hj1 (by omega)
    · exact absurd hj1 (by omega)
    · exact absurd hj1 (by omega)
    · exact absurd hj1 (by omega)
    · exact absurd hj1 (by omega)
    · show 4096 * C + (184320 * N2 + 1428480 - 120 * A2) ≤ 1150976 + F
      have f10 : 184320 * N + 1428480 - 120 * A ≤ F := hF 10 (by omega) (by decide)
      clear hF
      omega
    · show 4096 * C + (122880 * N2 + 952320 - 60 * A2) ≤ 1150976 + F
      have f10 : 184320 * N + 1428480 - 120 * A ≤ F := hF 10 (by omega) (by decide)
      have f11 : 122880 * N + 952320 - 60 * A ≤ F := hF 11 (by omega) (by decide)
      clear hF
      omega
    · show 4096 * C + (61440 * N2 + 476160 - 30 * A2) ≤ 1150976 + F
      have f10 : 184320 * N + 1428480 - 120 * A ≤ F := hF 10 (by omega) (by decide)
      have f11 : 122880 * N + 952320 - 60 * A ≤ F := hF 11 (by omega) (by decide)
      clear hF
      omega
  ·
    have f10 : 184320 * N + 1428480 - 120 * A ≤ F := hF 10 (by omega) (by decide)
    clear hF
    omega
theorem qs_z11 {g : Nat} {A N E z C F A2 N2 G : Int} (hF0 : 0 ≤ F) (hF : ∀ i : Nat, g ≤ i → i < 13 → qs_l i A N ≤ F) (hN : 1 ≤ N) (hN1 : N = 1 → 512 ≤ A) (hz : 0 ≤ z) (hE : 0 ≤ E) (h1 : A ≤ N * 2048) (h3 : z * 2048 ≤ 65536) (h4 : z * 2048 ≤ 2 * E + G) (hC : C ≤ 529) (hm : (A2 = A + E ∧ N2 = N + 1) ∨ (3 ≤ N ∧ A + E - G ≤ 2 * A2 ∧ 2 * N2 ≤ N + 2)) (hg : g = 11) (hG : G = 2048) (hC2 : C ≤ 8 * z + 17 ∨ (g = 0 ∧ G = 1 ∧ 31 ≤ z ∧ C ≤ 8 * z + 161) ∨ (1 ≤ g ∧ 13 ≤ z ∧ C ≤ 8 * z + 152)) : (∀ j : Nat, g ≤ j → j < 13 → 4096 * C + qs_l j A2 N2 ≤ 1150976 + F) ∧ 4096 * C ≤ 1150976 + F := by
  constructor
  · intro j hj1 hj2
    have hjs : j = 0 ∨ j = 1 ∨ j = 2 ∨ j = 3 ∨ j = 4 ∨ j = 5 ∨ j = 6 ∨ j = 7 ∨ j = 8 ∨ j = 9 ∨ j = 10 ∨ j = 11 ∨ j = 12 := by omega
    rcases hjs with rfl | rfl | rfl | rfl | rfl | rfl | rfl | rfl | rfl | rfl | rfl | rfl | rfl
    · exact absurd hj1 (by omega)
    · exact absurd hj1 (by omega)
    · exact absurd hj1 (by omega)
    · exact absurd hj1 (by omega)
    · exact absurd hj1 (by omega)
    · exact absurd hj1 (by omega)
    · exact absurd hj1 (by omega)
    · exact absurd hj1 (by omega)
    · exact absurd hj1 (by omega)
    · exact absurd hj1 (by omega)
    · exact absurd hj1 (by omega)
    · show 4096 * C + (122880 * N2 + 952320 - 60 * A2) ≤ 1150976 + F
      have f11 : 122880 * N + 952320 - 60 * A ≤ F := hF 11 (by omega) (by decide)
      clear hF
      omega
    · show 4096 * C + (61440 * N2 + 476160 - 30 * A2) ≤ 1150976 + F
      have f11 : 122880 * N + 952320 - 60 * A ≤ F := hF 11 (by omega) (by decide)
      have f12 : 61440 * N + 476160 - 30 * A ≤ F := hF 12 (by omega) (by decide)
      clear hF
      omega
  ·
    have f11 : 122880 * N + 952320 - 60 * A ≤ F := hF 11 (by omega) (by decide)
    clear hF
    omega
theorem qs_z12 {g : Nat} {A N E z C F A2 N2 G : Int} (hF0 : 0 ≤ F) (hF : ∀ i : Nat, g ≤ i → i < 13 → qs_l i A N ≤ F) (hN : 1 ≤ N) (hN1 : N = 1 → 512 ≤ A) (hz : 0 ≤ z) (hE : 0 ≤ E) (h1 : A ≤ N * 4096) (h3 : z * 4096 ≤ 65536) (h4 : z * 4096 ≤ 2 * E + G) (hC : C ≤ 529) (hm : (A2 = A + E ∧ N2 = N + 1) ∨ (3 ≤ N ∧ A + E - G ≤ 2 * A2 ∧ 2 * N2 ≤ N + 2)) (hg : g = 12) (hG : G = 4096) (hC2 : C ≤ 8 * z + 17 ∨ (g = 0 ∧ G = 1 ∧ 31 ≤ z ∧ C ≤ 8 * z + 161) ∨ (1 ≤ g ∧ 13 ≤ z ∧ C ≤ 8 * z + 152)) : (∀ j : Nat, g ≤ j → j < 13 → 4096 * C + qs_l j A2 N2 ≤ 1150976 + F) ∧ 4096 * C ≤ 1150976 + F := by
  constructor
  · intro j hj1 hj2
    have hjs : j = 0 ∨ j = 1 ∨ j = 2 ∨ j = 3 ∨ j = 4 ∨ j = 5 ∨ j = 6 ∨ j = 7 ∨ j = 8 ∨ j = 9 ∨ j = 10 ∨ j = 11 ∨ j = 12 := by omega
    rcases hjs with rfl | rfl | rfl | rfl | rfl | rfl | rfl | rfl | rfl | rfl | rfl | rfl | rfl
    · exact absurd hj1 (by omega)
    · exact absurd hj1 (by omega)
    · exact absurd hj1 (by omega)
    · exact absurd hj1 (by omega)
    · exact absurd hj1 (by omega)
    · exact absurd hj1 (by omega)
    · exact absurd hj1 (by omega)
    · exact absurd hj1 (by omega)
    · exact absurd hj1 (by omega)
    · exact absurd hj1 (by omega)
    · exact absurd hj1 (by omega)
    · exact absurd hj1 (by omega)
    · show 4096 * C + (61440 * N2 + 476160 - 30 * A2) ≤ 1150976 + F
      have f12 : 61440 * N + 476160 - 30 * A ≤ F := hF 12 (by omega) (by decide)
      clear hF
      omega
  ·
    clear hF
    omega
theorem qs_z13 {g : Nat} {A N E z C F A2 N2 G : Int} (hF0 : 0 ≤ F) (hF : ∀ i : Nat, g ≤ i → i < 13 → qs_l i A N ≤ F) (hN : 1 ≤ N) (hN1 : N = 1 → 512 ≤ A) (hz : 0 ≤ z) (hE : 0 ≤ E) (h1 : A ≤ N * 8192) (h3 : z * 8192 ≤ 65536) (h4 : z * 8192 ≤ 2 * E + G) (hC : C ≤ 529) (hm : (A2 = A + E ∧ N2 = N + 1) ∨ (3 ≤ N ∧ A + E - G ≤ 2 * A2 ∧ 2 * N2 ≤ N + 2)) (hg : g = 13) (hG : G = 8192) (hC2 : C ≤ 8 * z + 17 ∨ (g = 0 ∧ G = 1 ∧ 31 ≤ z ∧ C ≤ 8 * z + 161) ∨ (1 ≤ g ∧ 13 ≤ z ∧ C ≤ 8 * z + 152)) : (∀ j : Nat, g ≤ j → j < 13 → 4096 * C + qs_l j A2 N2 ≤ 1150976 + F) ∧ 4096 * C ≤ 1150976 + F := by
  constructor
  · intro j hj1 hj2
    have hjs : j = 0 ∨ j = 1 ∨ j = 2 ∨ j = 3 ∨ j = 4 ∨ j = 5 ∨ j = 6 ∨ j = 7 ∨ j = 8 ∨ j = 9 ∨ j = 10 ∨ j = 11 ∨ j = 12 := by omega
    rcases hjs with rfl | rfl | rfl | rfl | rfl | rfl | rfl | rfl | rfl | rfl | rfl | rfl | rfl
    · exact absurd hj1 (by omega)
    · exact absurd hj1 (by omega)
    · exact absurd hj1 (by omega)
    · exact absurd hj1 (by omega)
    · exact absurd hj1 (by omega)
    · exact absurd hj1 (by omega)
    · exact absurd hj1 (by omega)
    · exact absurd hj1 (by omega)
    · exact absurd hj1 (by omega)
    · exact absurd hj1 (by omega)
    · exact absurd hj1 (by omega)
    · exact absurd hj1 (by omega)
    · exact absurd hj1 (by omega)
  ·
    clear hF
    omega
theorem qs_z14 {g : Nat} {A N E z C F A2 N2 G : Int} (hF0 : 0 ≤ F) (hF : ∀ i : Nat, g ≤ i → i < 13 → qs_l i A N ≤ F) (hN : 1 ≤ N) (hN1 : N = 1 → 512 ≤ A) (hz : 0 ≤ z) (hE : 0 ≤ E) (h1 : A ≤ N * 16384) (h3 : z * 16384 ≤ 65536) (h4 : z * 16384 ≤ 2 * E + G) (hC : C ≤ 529) (hm : (A2 = A + E ∧ N2 = N + 1) ∨ (3 ≤ N ∧ A + E - G ≤ 2 * A2 ∧ 2 * N2 ≤ N + 2)) (hg : g = 14) (hG : G = 16384) (hC2 : C ≤ 8 * z + 17 ∨ (g = 0 ∧ G = 1 ∧ 31 ≤ z ∧ C ≤ 8 * z + 161) ∨ (1 ≤ g ∧ 13 ≤ z ∧ C ≤ 8 * z + 152)) : (∀ j : Nat, g ≤ j → j < 13 → 4096 * C + qs_l j A2 N2 ≤ 1150976 + F) ∧ 4096 * C ≤ 1150976 + F := by
  constructor
  · intro j hj1 hj2
    have hjs : j = 0 ∨ j = 1 ∨ j = 2 ∨ j = 3 ∨ j = 4 ∨ j = 5 ∨ j = 6 ∨ j = 7 ∨ j = 8 ∨ j = 9 ∨ j = 10 ∨ j = 11 ∨ j = 12 := by omega
    rcases hjs with rfl | rfl | rfl | rfl | rfl | rfl | rfl | rfl | rfl | rfl | rfl | rfl | rfl
    · exact absurd hj1 (by omega)
    · exact absurd hj1 (by omega)
    · exact absurd hj1 (by omega)
    · exact absurd hj1 (by omega)
    · exact absurd hj1 (by omega)
    · exact absurd hj1 (by omega)
    · exact absurd hj1 (by omega)
    · exact absurd hj1 (by omega)
    · exact absurd hj1 (by omega)
    · exact absurd hj1 (by omega)
    · exact absurd hj1 (by omega)
    · exact absurd hj1 (by omega)
    · exact absurd hj1 (by omega)
  ·
    clear hF
    omega
theorem qs_z15 {g : Nat} {A N E z C F A2 N2 G : Int} (hF0 : 0 ≤ F) (hF : ∀ i : Nat, g ≤ i → i < 13 → qs_l i A N ≤ F) (hN : 1 ≤ N) (hN1 : N = 1 → 512 ≤ A) (hz : 0 ≤ z) (hE : 0 ≤ E) (h1 : A ≤ N * 32768) (h3 : z * 32768 ≤ 65536) (h4 : z * 32768 ≤ 2 * E + G) (hC : C ≤ 529) (hm : (A2 = A + E ∧ N2 = N + 1) ∨ (3 ≤ N ∧ A + E - G ≤ 2 * A2 ∧ 2 * N2 ≤ N + 2)) (hg : g = 15) (hG : G = 32768) (hC2 : C ≤ 8 * z + 17 ∨ (g = 0 ∧ G = 1 ∧ 31 ≤ z ∧ C ≤ 8 * z + 161) ∨ (1 ≤ g ∧ 13 ≤ z ∧ C ≤ 8 * z + 152)) : (∀ j : Nat, g ≤ j → j < 13 → 4096 * C + qs_l j A2 N2 ≤ 1150976 + F) ∧ 4096 * C ≤ 1150976 + F := by
  constructor
  · intro j hj1 hj2
    have hjs : j = 0 ∨ j = 1 ∨ j = 2 ∨ j = 3 ∨ j = 4 ∨ j = 5 ∨ j = 6 ∨ j = 7 ∨ j = 8 ∨ j = 9 ∨ j = 10 ∨ j = 11 ∨ j = 12 := by omega
    rcases hjs with rfl | rfl | rfl | rfl | rfl | rfl | rfl | rfl | rfl | rfl | rfl | rfl | rfl
    · exact absurd hj1 (by omega)
    · exact absurd hj1 (by omega)
    · exact absurd hj1 (by omega)
    · exact absurd hj1 (by omega)
    · exact absurd hj1 (by omega)
    · exact absurd hj1 (by omega)
    · exact absurd hj1 (by omega)
    · exact absurd hj1 (by omega)
    · exact absurd hj1 (by omega)
    · exact absurd hj1 (by omega)
    · exact absurd hj1 (by omega)
    · exact absurd hj1 (by omega)
    · exact absurd hj1 (by omega)
  ·
    clear hF
    omega
theorem qs_z16 {g : Nat} {A N E z C F A2 N2 G : Int} (hF0 : 0 ≤ F) (hF : ∀ i : Nat, g ≤ i → i < 13 → qs_l i A N ≤ F) (hN : 1 ≤ N) (hN1 : N = 1 → 512 ≤ A) (hz : 0 ≤ z) (hE : 0 ≤ E) (h1 : A ≤ N * 65536) (h3 : z * 65536 ≤ 65536) (h4 : z * 65536 ≤ 2 * E + G) (hC : C ≤ 529) (hm : (A2 = A + E ∧ N2 = N + 1) ∨ (3 ≤ N ∧ A + E - G ≤ 2 * A2 ∧ 2 * N2 ≤ N + 2)) (hg : g = 16) (hG : G = 65536) (hC2 : C ≤ 8 * z + 17 ∨ (g = 0 ∧ G = 1 ∧ 31 ≤ z ∧ C ≤ 8 * z + 161) ∨ (1 ≤ g ∧ 13 ≤ z ∧ C ≤ 8 * z + 152)) : (∀ j : Nat, g ≤ j → j < 13 → 4096 * C + qs_l j A2 N2 ≤ 1150976 + F) ∧ 4096 * C ≤ 1150976 + F := by
  constructor
  · intro j hj1 hj2
    have hjs : j = 0 ∨ j = 1 ∨ j = 2 ∨ j = 3 ∨ j = 4 ∨ j = 5 ∨ j = 6 ∨ j = 7 ∨ j = 8 ∨ j = 9 ∨ j = 10 ∨ j = 11 ∨ j = 12 := by omega
    rcases hjs with rfl | rfl | rfl | rfl | rfl | rfl | rfl | rfl | rfl | rfl | rfl | rfl | rfl
    · exact absurd hj1 (by omega)
    · exact absurd hj1 (by omega)
    · exact absurd hj1 (by omega)
    · exact absurd hj1 (by omega)
    · exact absurd hj1 (by omega)
    · exact absurd hj1 (by omega)
    · exact absurd hj1 (by omega)
    · exact absurd hj1 (by omega)
    · exact absurd hj1 (by omega)
    · exact absurd hj1 (by omega)
    · exact absurd hj1 (by omega)
    · exact absurd hj1 (by omega)
    · exact absurd hj1 (by omega)
  ·
    clear hF
    omega
