/-! the potential of a place: what it can still cost above 281 eighths of a bit a sample. In 4096th parts; A is scaled by 2^(16 - q) -/
def qr_a (j : Nat) : Int := match j with
  | 0 => 851968
  | 1 => 786432
  | 2 => 720896
  | 3 => 655360
  | 4 => 589824
  | 5 => 524288
  | 6 => 458752
  | 7 => 393216
  | 8 => 327680
  | 9 => 262144
  | 10 => 196608
  | 11 => 131072
  | _ => 65536
def qr_c (j : Nat) : Int := match j with
  | 0 => 5963776
  | 1 => 5505024
  | 2 => 5046272
  | 3 => 4587520
  | 4 => 4128768
  | 5 => 3670016
  | 6 => 3211264
  | 7 => 2752512
  | 8 => 2293760
  | 9 => 1835008
  | 10 => 1376256
  | 11 => 917504
  | _ => 458752
def qr_b (j : Nat) : Int := match j with
  | 0 => 131072
  | 1 => 65536
  | 2 => 32768
  | 3 => 16384
  | 4 => 8192
  | 5 => 4096
  | 6 => 2048
  | 7 => 1024
  | 8 => 512
  | 9 => 256
  | 10 => 128
  | 11 => 64
  | _ => 32
def qr_l (j : Nat) (A N : Int) : Int := qr_a j * N + qr_c j - qr_b j * A
theorem qr_x1 {g : Nat} {A N E z C F A2 N2 G : Int} (hF0 : 0 ≤ F) (hF : ∀ i : Nat, g ≤ i → i < 13 → qr_l i A N ≤ F) (hN : 1 ≤ N) (hN1 : N = 1 → 512 ≤ A) (hz : 0 ≤ z) (hE : 0 ≤ E) (h1 : A ≤ N * 2) (h3 : z * 2 ≤ 65536) (h4 : z * 2 ≤ 2 * E) (hC : C ≤ 529) (hm : (A2 = A + E ∧ N2 = N + 1) ∨ (3 ≤ N ∧ A + E - G ≤ 2 * A2 ∧ 2 * N2 ≤ N + 2)) (hg : g ≤ 0) (hG : 1 ≤ G ∧ G ≤ 1) (hGj : ∀ j : Nat, g ≤ j → G ≤ 2 ^ j) (h2 : N * 1 < A) (hC2 : (g ≤ 1 ∧ C ≤ 8 * z + 18) ∨ (g ≤ 4 ∧ C ≤ 8 * z + 0) ∨ C ≤ 8 * z + -27 ∨ (g = 0 ∧ G = 1 ∧ 47 ≤ z ∧ C ≤ 8 * z + 153) ∨ (1 ≤ g ∧ 29 ≤ z ∧ C ≤ 8 * z + 144)) : (∀ j : Nat, g ≤ j → j < 13 → 4096 * C + qr_l j A2 N2 ≤ 1150976 + F) ∧ 4096 * C ≤ 1150976 + F := by
  constructor
  · intro j hj1 hj2
    have hjs : j = 0 ∨ j = 1 ∨ j = 2 ∨ j = 3 ∨ j = 4 ∨ j = 5 ∨ j = 6 ∨ j = 7 ∨ j = 8 ∨ j = 9 ∨ j = 10 ∨ j = 11 ∨ j = 12 := by omega
    rcases hjs with rfl | rfl | rfl | rfl | rfl | rfl | rfl | rfl | rfl | rfl | rfl | rfl | rfl
    · show 4096 * C + (851968 * N2 + 5963776 - 131072 * A2) ≤ 1150976 + F
      have f0 : 851968 * N + 5963776 - 131072 * A ≤ F := hF 0 (by omega) (by decide)
      have g1 : G ≤ 1 := hGj 0 (by omega)
      rcases hC2 with ⟨hq, hc⟩ | ⟨hq, hc⟩ | hc | hc
      · have u1 : G ≤ 2 := hGj 1 hq
        clear hF hGj
        omega
      · have u1 : G ≤ 16 := hGj 4 hq
        clear hF hGj
        omega
      · clear hF hGj
        omega
      · clear hF hGj
        omega
    · show 4096 * C + (786432 * N2 + 5505024 - 65536 * A2) ≤ 1150976 + F
      have f1 : 786432 * N + 5505024 - 65536 * A ≤ F := hF 1 (by omega) (by decide)
      have g1 : G ≤ 1 := hGj 0 (by omega)
      rcases hC2 with ⟨hq, hc⟩ | ⟨hq, hc⟩ | hc | hc
      · have u1 : G ≤ 2 := hGj 1 hq
        clear hF hGj
        omega
      · have u1 : G ≤ 16 := hGj 4 hq
        clear hF hGj
        omega
      · clear hF hGj
        omega
      · clear hF hGj
        omega
    · show 4096 * C + (720896 * N2 + 5046272 - 32768 * A2) ≤ 1150976 + F
      have f1 : 786432 * N + 5505024 - 65536 * A ≤ F := hF 1 (by omega) (by decide)
      have f2 : 720896 * N + 5046272 - 32768 * A ≤ F := hF 2 (by omega) (by decide)
      have g1 : G ≤ 1 := hGj 0 (by omega)
      rcases hC2 with ⟨hq, hc⟩ | ⟨hq, hc⟩ | hc | hc
      · have u1 : G ≤ 2 := hGj 1 hq
        clear hF hGj
        omega
      · have u1 : G ≤ 16 := hGj 4 hq
        clear hF hGj
        omega
      · clear hF hGj
        omega
      · clear hF hGj
        omega
    · show 4096 * C + (655360 * N2 + 4587520 - 16384 * A2) ≤ 1150976 + F
      have f1 : 786432 * N + 5505024 - 65536 * A ≤ F := hF 1 (by omega) (by decide)
      have f2 : 720896 * N + 5046272 - 32768 * A ≤ F := hF 2 (by omega) (by decide)
      have g1 : G ≤ 1 := hGj 0 (by omega)
      rcases hC2 with ⟨hq, hc⟩ | ⟨hq, hc⟩ | hc | hc
      · have u1 : G ≤ 2 := hGj 1 hq
        clear hF hGj
        omega
      · have u1 : G ≤ 16 := hGj 4 hq
        clear hF hGj
        omega
      · clear hF hGj
        omega
      · clear hF hGj
        omega
    · show 4096 * C + (589824 * N2 + 4128768 - 8192 * A2) ≤ 1150976 + F
      have f1 : 786432 * N + 5505024 - 65536 * A ≤ F := hF 1 (by omega) (by decide)
      have f2 : 720896 * N + 5046272 - 32768 * A ≤ F := hF 2 (by omega) (by decide)
      have f3 : 655360 * N + 4587520 - 16384 * A ≤ F := hF 3 (by omega) (by decide)
      have g1 : G ≤ 1 := hGj 0 (by omega)
      rcases hC2 with ⟨hq, hc⟩ | ⟨hq, hc⟩ | hc | hc
      · have u1 : G ≤ 2 := hGj 1 hq
        clear hF hGj
        omega
      · have u1 : G ≤ 16 := hGj 4 hq
        clear hF hGj
        omega
      · clear hF hGj
        omega
      · clear hF hGj
        omega
    · show 4096 * C + (524288 * N2 + 3670016 - 4096 * A2) ≤ 1150976 + F
      have f2 : 720896 * N + 5046272 - 32768 * A ≤ F := hF 2 (by omega) (by decide)
      have f3 : 655360 * N + 4587520 - 16384 * A ≤ F := hF 3 (by omega) (by decide)
      have f4 : 589824 * N + 4128768 - 8192 * A ≤ F := hF 4 (by omega) (by decide)
      have g1 : G ≤ 1 := hGj 0 (by omega)
      rcases hC2 with ⟨hq, hc⟩ | ⟨hq, hc⟩ | hc | hc
      · have u1 : G ≤ 2 := hGj 1 hq
        clear hF hGj
        omega
      · have u1 : G ≤ 16 := hGj 4 hq
        clear hF hGj
        omega
      · clear hF hGj
        omega
      · clear hF hGj
        omega
    · show 4096 * C + (458752 * N2 + 3211264 - 2048 * A2) ≤ 1150976 + F
      have f3 : 655360 * N + 4587520 - 16384 * A ≤ F := hF 3 (by omega) (by decide)
      have f4 : 589824 * N + 4128768 - 8192 * A ≤ F := hF 4 (by omega) (by decide)
      have g1 : G ≤ 1 := hGj 0 (by omega)
      rcases hC2 with ⟨hq, hc⟩ | ⟨hq, hc⟩ | hc | hc
      · have u1 : G ≤ 2 := hGj 1 hq
        clear hF hGj
        omega
      · have u1 : G ≤ 16 := hGj 4 hq
        clear hF hGj
        omega
      · clear hF hGj
        omega
      · clear hF hGj
        omega
    · show 4096 * C + (393216 * N2 + 2752512 - 1024 * A2) ≤ 1150976 + F
      have f4 : 589824 * N + 4128768 - 8192 * A ≤ F := hF 4 (by omega) (by decide)
      have f5 : 524288 * N + 3670016 - 4096 * A ≤ F := hF 5 (by omega) (by decide)
      have g1 : G ≤ 1 := hGj 0 (by omega)
      rcases hC2 with ⟨hq, hc⟩ | ⟨hq, hc⟩ | hc | hc
      · have u1 : G ≤ 2 := hGj 1 hq
        clear hF hGj
        omega
      · have u1 : G ≤ 16 := hGj 4 hq
        clear hF hGj
        omega
      · clear hF hGj
        omega
      · clear hF hGj
        omega
    · show 4096 * C + (327680 * N2 + 2293760 - 512 * A2) ≤ 1150976 + F
      have f5 : 524288 * N + 3670016 - 4096 * A ≤ F := hF 5 (by omega) (by decide)
      have f6 : 458752 * N + 3211264 - 2048 * A ≤ F := hF 6 (by omega) (by decide)
      have g1 : G ≤ 1 := hGj 0 (by omega)
      rcases hC2 with ⟨hq, hc⟩ | ⟨hq, hc⟩ | hc | hc
      · have u1 : G ≤ 2 := hGj 1 hq
        clear hF hGj
        omega
      · have u1 : G ≤ 16 := hGj 4 hq
        clear hF hGj
        omega
      · clear hF hGj
        omega
      · clear hF hGj
        omega
    · show 4096 * C + (262144 * N2 + 1835008 - 256 * A2) ≤ 1150976 + F
      have f6 : 458752 * N + 3211264 - 2048 * A ≤ F := hF 6 (by omega) (by decide)
      have f7 : 393216 * N + 2752512 - 1024 * A ≤ F := hF 7 (by omega) (by decide)
      have g1 : G ≤ 1 := hGj 0 (by omega)
      rcases hC2 with ⟨hq, hc⟩ | ⟨hq, hc⟩ | hc | hc
      · have u1 : G ≤ 2 := hGj 1 hq
        clear hF hGj
        omega
      · have u1 : G ≤ 16 := hGj 4 hq
        clear hF hGj
        omega
      · clear hF hGj
        omega
      · clear hF hGj
        omega
    · show 4096 * C + (196608 * N2 + 1376256 - 128 * A2) ≤ 1150976 + F
      have f7 : 393216 * N + 2752512 - 1024 * A ≤ F := hF 7 (by omega) (by decide)
      have f8 : 327680 * N + 2293760 - 512 * A ≤ F := hF 8 (by omega) (by decide)
      have g1 : G ≤ 1 := hGj 0 (by omega)
      rcases hC2 with ⟨hq, hc⟩ | ⟨hq, hc⟩ | hc | hc
      · have u1 : G ≤ 2 := hGj 1 hq
        clear hF hGj
        omega
      · have u1 : G ≤ 16 := hGj 4 hq
        clear hF hGj
        omega
      · clear hF hGj
        omega
      · clear hF hGj
        omega
    · show 4096 * C + (131072 * N2 + 917504 - 64 * A2) ≤ 1150976 + F
      have f9 : 262144 * N + 1835008 - 256 * A ≤ F := hF 9 (by omega) (by decide)
      have g1 : G ≤ 1 := hGj 0 (by omega)
      rcases hC2 with ⟨hq, hc⟩ | ⟨hq, hc⟩ | hc | hc
      · have u1 : G ≤ 2 := hGj 1 hq
        clear hF hGj
        omega
      · have u1 : G ≤ 16 := hGj 4 hq
        clear hF hGj
        omega
      · clear hF hGj
        omega
      · clear hF hGj
        omega
    · show 4096 * C + (65536 * N2 + 458752 - 32 * A2) ≤ 1150976 + F
      have f10 : 196608 * N + 1376256 - 128 * A ≤ F := hF 10 (by omega) (by decide)
      have g1 : G ≤ 1 := hGj 0 (by omega)
      rcases hC2 with ⟨hq, hc⟩ | ⟨hq, hc⟩ | hc | hc
      · have u1 : G ≤ 2 := hGj 1 hq
        clear hF hGj
        omega
      · have u1 : G ≤ 16 := hGj 4 hq
        clear hF hGj
        omega
      · clear hF hGj
        omega
      · clear hF hGj
        omega
  ·
    have f1 : 786432 * N + 5505024 - 65536 * A ≤ F := hF 1 (by omega) (by decide)
    have g1 : G ≤ 1 := hGj 0 (by omega)
    rcases hC2 with ⟨hq, hc⟩ | ⟨hq, hc⟩ | hc | hc
    · have u1 : G ≤ 2 := hGj 1 hq
      clear hF hGj
      omega
    · have u1 : G ≤ 16 := hGj 4 hq
      clear hF hGj
      omega
    · clear hF hGj
      omega
    · clear hF hGj
      omega
theorem qr_x2 {g : Nat} {A N E z C F A2 N2 G : Int} (hF0 : 0 ≤ F) (hF : ∀ i : Nat, g ≤ i → i < 13 → qr_l i A N ≤ F) (hN : 1 ≤ N) (hN1 : N = 1 → 512 ≤ A) (hz : 0 ≤ z) (hE : 0 ≤ E) (h1 : A ≤ N * 4) (h3 : z * 4 ≤ 65536) (h4 : z * 4 ≤ 2 * E) (hC : C ≤ 529) (hm : (A2 = A + E ∧ N2 = N + 1) ∨ (3 ≤ N ∧ A + E - G ≤ 2 * A2 ∧ 2 * N2 ≤ N + 2)) (hg : g ≤ 1) (hG : 1 ≤ G ∧ G ≤ 2) (hGj : ∀ j : Nat, g ≤ j → G ≤ 2 ^ j) (h2 : N * 2 < A) (hC2 : (g ≤ 1 ∧ C ≤ 8 * z + 27) ∨ (g ≤ 4 ∧ C ≤ 8 * z + 9) ∨ C ≤ 8 * z + -18 ∨ (g = 0 ∧ G = 1 ∧ 47 ≤ z ∧ C ≤ 8 * z + 153) ∨ (1 ≤ g ∧ 29 ≤ z ∧ C ≤ 8 * z + 144)) : (∀ j : Nat, g ≤ j → j < 13 → 4096 * C + qr_l j A2 N2 ≤ 1150976 + F) ∧ 4096 * C ≤ 1150976 + F := by
  constructor
  · intro j hj1 hj2
    have hjs : j = 0 ∨ j = 1 ∨ j = 2 ∨ j = 3 ∨ j = 4 ∨ j = 5 ∨ j = 6 ∨ j = 7 ∨ j = 8 ∨ j = 9 ∨ j = 10 ∨ j = 11 ∨ j = 12 := by omega
    rcases hjs with rfl | rfl | rfl | rfl | rfl | rfl | rfl | rfl | rfl | rfl | rfl | rfl | rfl
    · show 4096 * C + (851968 * N2 + 5963776 - 131072 * A2) ≤ 1150976 + F
      have f0 : 851968 * N + 5963776 - 131072 * A ≤ F := hF 0 (by omega) (by decide)
      have g1 : G ≤ 1 := hGj 0 (by omega)
      rcases hC2 with ⟨hq, hc⟩ | ⟨hq, hc⟩ | hc | hc
      · have u1 : G ≤ 2 := hGj 1 hq
        clear hF hGj
        omega
      · have u1 : G ≤ 16 := hGj 4 hq
        clear hF hGj
        omega
      · clear hF hGj
        omega
      · clear hF hGj
        omega
    · show 4096 * C + (786432 * N2 + 5505024 - 65536 * A2) ≤ 1150976 + F
      have f1 : 786432 * N + 5505024 - 65536 * A ≤ F := hF 1 (by omega) (by decide)
      have g1 : G ≤ 2 := hGj 1 (by omega)
      rcases hC2 with ⟨hq, hc⟩ | ⟨hq, hc⟩ | hc | hc
      · have u1 : G ≤ 2 := hGj 1 hq
        clear hF hGj
        omega
      · have u1 : G ≤ 16 := hGj 4 hq
        clear hF hGj
        omega
      · clear hF hGj
        omega
      · clear hF hGj
        omega
    · show 4096 * C + (720896 * N2 + 5046272 - 32768 * A2) ≤ 1150976 + F
      have f2 : 720896 * N + 5046272 - 32768 * A ≤ F := hF 2 (by omega) (by decide)
      have g1 : G ≤ 2 := hGj 1 (by omega)
      rcases hC2 with ⟨hq, hc⟩ | ⟨hq, hc⟩ | hc | hc
      · have u1 : G ≤ 2 := hGj 1 hq
        clear hF hGj
        omega
      · have u1 : G ≤ 16 := hGj 4 hq
        clear hF hGj
        omega
      · clear hF hGj
        omega
      · clear hF hGj
        omega
    · show 4096 * C + (655360 * N2 + 4587520 - 16384 * A2) ≤ 1150976 + F
      have f2 : 720896 * N + 5046272 - 32768 * A ≤ F := hF 2 (by omega) (by decide)
      have f3 : 655360 * N + 4587520 - 16384 * A ≤ F := hF 3 (by omega) (by decide)
      have g1 : G ≤ 2 := hGj 1 (by omega)
      rcases hC2 with ⟨hq, hc⟩ | ⟨hq, hc⟩ | hc | hc
      · have u1 : G ≤ 2 := hGj 1 hq
        clear hF hGj
        omega
      · have u1 : G ≤ 16 := hGj 4 hq
        clear hF hGj
        omega
      · clear hF hGj
        omega
      · clear hF hGj
        omega
    · show 4096 * C + (589824 * N2 + 4128768 - 8192 * A2) ≤ 1150976 + F
      have f2 : 720896 * N + 5046272 - 32768 * A ≤ F := hF 2 (by omega) (by decide)
      have f3 : 655360 * N + 4587520 - 16384 * A ≤ F := hF 3 (by omega) (by decide)
      have g1 : G ≤ 2 := hGj 1 (by omega)
      rcases hC2 with ⟨hq, hc⟩ | ⟨hq, hc⟩ | hc | hc
      · have u1 : G ≤ 2 := hGj 1 hq
        clear hF hGj
        omega
      · have u1 : G ≤ 16 := hGj 4 hq
        clear hF hGj
        omega
      · clear hF hGj
        omega
      · clear hF hGj
        omega
    · show 4096 * C + (524288 * N2 + 3670016 - 4096 * A2) ≤ 1150976 + F
      have f2 : 720896 * N + 5046272 - 32768 * A ≤ F := hF 2 (by omega) (by decide)
      have f3 : 655360 * N + 4587520 - 16384 * A ≤ F := hF 3 (by omega) (by decide)
      have f4 : 589824 * N + 4128768 - 8192 * A ≤ F := hF 4 (by omega) (by decide)
      have g1 : G ≤ 2 := hGj 1 (by omega)
      rcases hC2 with ⟨hq, hc⟩ | ⟨hq, hc⟩ | hc | hc
      · have u1 : G ≤ 2 := hGj 1 hq
        clear hF hGj
        omega
      · have u1 : G ≤ 16 := hGj 4 hq
        clear hF hGj
        omega
      · clear hF hGj
        omega
      · clear hF hGj
        omega
    · show 4096 * C + (458752 * N2 + 3211264 - 2048 * A2) ≤ 1150976 + F
      have f3 : 655360 * N + 4587520 - 16384 * A ≤ F := hF 3 (by omega) (by decide)
      have f4 : 589824 * N + 4128768 - 8192 * A ≤ F := hF 4 (by omega) (by decide)
      have g1 : G ≤ 2 := hGj 1 (by omega)
      rcases hC2 with ⟨hq, hc⟩ | ⟨hq, hc⟩ | hc | hc
      · have u1 : G ≤ 2 := hGj 1 hq
        clear hF hGj
        omega
      · have u1 : G ≤ 16 := hGj 4 hq
        clear hF hGj
        omega
      · clear hF hGj
        omega
      · clear hF hGj
        omega
    · show 4096 * C + (393216 * N2 + 2752512 - 1024 * A2) ≤ 1150976 + F
      have f4 : 589824 * N + 4128768 - 8192 * A ≤ F := hF 4 (by omega) (by decide)
      have f5 : 524288 * N + 3670016 - 4096 * A ≤ F := hF 5 (by omega) (by decide)
      have g1 : G ≤ 2 := hGj 1 (by omega)
      rcases hC2 with ⟨hq, hc⟩ | ⟨hq, hc⟩ | hc | hc
      · have u1 : G ≤ 2 := hGj 1 hq
        clear hF hGj
        omega
      · have u1 : G ≤ 16 := hGj 4 hq
        clear hF hGj
        omega
      · clear hF hGj
        omega
      · clear hF hGj
        omega
    · show 4096 * C + (327680 * N2 + 2293760 - 512 * A2) ≤ 1150976 + F
      have f5 : 524288 * N + 3670016 - 4096 * A ≤ F := hF 5 (by omega) (by decide)
      have f6 : 458752 * N + 3211264 - 2048 * A ≤ F := hF 6 (by omega) (by decide)
      have g1 : G ≤ 2 := hGj 1 (by omega)
      rcases hC2 with ⟨hq, hc⟩ | ⟨hq, hc⟩ | hc | hc
      · have u1 : G ≤ 2 := hGj 1 hq
        clear hF hGj
        omega
      · have u1 : G ≤ 16 := hGj 4 hq
        clear hF hGj
        omega
      · clear hF hGj
        omega
      · clear hF hGj
        omega
    · show 4096 * C + (262144 * N2 + 1835008 - 256 * A2) ≤ 1150976 + F
      have f6 : 458752 * N + 3211264 - 2048 * A ≤ F := hF 6 (by omega) (by decide)
      have f7 : 393216 * N + 2752512 - 1024 * A ≤ F := hF 7 (by omega) (by decide)
      have g1 : G ≤ 2 := hGj 1 (by omega)
      rcases hC2 with ⟨hq, hc⟩ | ⟨hq, hc⟩ | hc | hc
      · have u1 : G ≤ 2 := hGj 1 hq
        clear hF hGj
        omega
      · have u1 : G ≤ 16 := hGj 4 hq
        clear hF hGj
        omega
      · clear hF hGj
        omega
      · clear hF hGj
        omega
    · show 4096 * C + (196608 * N2 + 1376256 - 128 * A2) ≤ 1150976 + F
      have f7 : 393216 * N + 2752512 - 1024 * A ≤ F := hF 7 (by omega) (by decide)
      have f8 : 327680 * N + 2293760 - 512 * A ≤ F := hF 8 (by omega) (by decide)
      have g1 : G ≤ 2 := hGj 1 (by omega)
      rcases hC2 with ⟨hq, hc⟩ | ⟨hq, hc⟩ | hc | hc
      · have u1 : G ≤ 2 := hGj 1 hq
        clear hF hGj
        omega
      · have u1 : G ≤ 16 := hGj 4 hq
        clear hF hGj
        omega
      · clear hF hGj
        omega
      · clear hF hGj
        omega
    · show 4096 * C + (131072 * N2 + 917504 - 64 * A2) ≤ 1150976 + F
      have f9 : 262144 * N + 1835008 - 256 * A ≤ F := hF 9 (by omega) (by decide)
      have g1 : G ≤ 2 := hGj 1 (by omega)
      rcases hC2 with ⟨hq, hc⟩ | ⟨hq, hc⟩ | hc | hc
      · have u1 : G ≤ 2 := hGj 1 hq
        clear hF hGj
        omega
      · have u1 : G ≤ 16 := hGj 4 hq
        clear hF hGj
        omega
      · clear hF hGj
        omega
      · clear hF hGj
        omega
    · show 4096 * C + (65536 * N2 + 458752 - 32 * A2) ≤ 1150976 + F
      have f10 : 196608 * N + 1376256 - 128 * A ≤ F := hF 10 (by omega) (by decide)
      have g1 : G ≤ 2 := hGj 1 (by omega)
      rcases hC2 with ⟨hq, hc⟩ | ⟨hq, hc⟩ | hc | hc
      · have u1 : G ≤ 2 := hGj 1 hq
        clear hF hGj
        omega
      · have u1 : G ≤ 16 := hGj 4 hq
        clear hF hGj
        omega
      · clear hF hGj
        omega
      · clear hF hGj
        omega
  ·
    have f2 : 720896 * N + 5046272 - 32768 * A ≤ F := hF 2 (by omega) (by decide)
    have g1 : G ≤ 2 := hGj 1 (by omega)
    rcases hC2 with ⟨hq, hc⟩ | ⟨hq, hc⟩ | hc | hc
    · have u1 : G ≤ 2 := hGj 1 hq
      clear hF hGj
      omega
    · have u1 : G ≤ 16 := hGj 4 hq
      clear hF hGj
      omega
    · clear hF hGj
      omega
    · clear hF hGj
      omega
theorem qr_x3 {g : Nat} {A N E z C F A2 N2 G : Int} (hF0 : 0 ≤ F) (hF : ∀ i : Nat, g ≤ i → i < 13 → qr_l i A N ≤ F) (hN : 1 ≤ N) (hN1 : N = 1 → 512 ≤ A) (hz : 0 ≤ z) (hE : 0 ≤ E) (h1 : A ≤ N * 8) (h3 : z * 8 ≤ 65536) (h4 : z * 8 ≤ 2 * E) (hC : C ≤ 529) (hm : (A2 = A + E ∧ N2 = N + 1) ∨ (3 ≤ N ∧ A + E - G ≤ 2 * A2 ∧ 2 * N2 ≤ N + 2)) (hg : g ≤ 2) (hG : 1 ≤ G ∧ G ≤ 4) (hGj : ∀ j : Nat, g ≤ j → G ≤ 2 ^ j) (h2 : N * 4 < A) (hC2 : (g ≤ 1 ∧ C ≤ 8 * z + 36) ∨ (g ≤ 4 ∧ C ≤ 8 * z + 18) ∨ C ≤ 8 * z + -9 ∨ (g = 0 ∧ G = 1 ∧ 47 ≤ z ∧ C ≤ 8 * z + 153) ∨ (1 ≤ g ∧ 29 ≤ z ∧ C ≤ 8 * z + 144)) : (∀ j : Nat, g ≤ j → j < 13 → 4096 * C + qr_l j A2 N2 ≤ 1150976 + F) ∧ 4096 * C ≤ 1150976 + F := by
  constructor
  · intro j hj1 hj2
    have hjs : j = 0 ∨ j = 1 ∨ j = 2 ∨ j = 3 ∨ j = 4 ∨ j = 5 ∨ j = 6 ∨ j = 7 ∨ j = 8 ∨ j = 9 ∨ j = 10 ∨ j = 11 ∨ j = 12 := by omega
    rcases hjs with rfl | rfl | rfl | rfl | rfl | rfl | rfl | rfl | rfl | rfl | rfl | rfl | rfl
    · show 4096 * C + (851968 * N2 + 5963776 - 131072 * A2) ≤ 1150976 + F
      have f0 : 851968 * N + 5963776 - 131072 * A ≤ F := hF 0 (by omega) (by decide)
      have f1 : 786432 * N + 5505024 - 65536 * A ≤ F := hF 1 (by omega) (by decide)
      have g1 : G ≤ 1 := hGj 0 (by omega)
      rcases hC2 with ⟨hq, hc⟩ | ⟨hq, hc⟩ | hc | hc
      · have u1 : G ≤ 2 := hGj 1 hq
        clear hF hGj
        omega
      · have u1 : G ≤ 16 := hGj 4 hq
        clear hF hGj
        omega
      · clear hF hGj
        omega
      · clear hF hGj
        omega
    · show 4096 * C + (786432 * N2 + 5505024 - 65536 * A2) ≤ 1150976 + F
      have f1 : 786432 * N + 5505024 - 65536 * A ≤ F := hF 1 (by omega) (by decide)
      have g1 : G ≤ 2 := hGj 1 (by omega)
      rcases hC2 with ⟨hq, hc⟩ | ⟨hq, hc⟩ | hc | hc
      · have u1 : G ≤ 2 := hGj 1 hq
        clear hF hGj
        omega
      · have u1 : G ≤ 16 := hGj 4 hq
        clear hF hGj
        omega
      · clear hF hGj
        omega
      · clear hF hGj
        omega
    · show 4096 * C + (720896 * N2 + 5046272 - 32768 * A2) ≤ 1150976 + F
      have f2 : 720896 * N + 5046272 - 32768 * A ≤ F := hF 2 (by omega) (by decide)
      have g1 : G ≤ 4 := hGj 2 (by omega)
      rcases hC2 with ⟨hq, hc⟩ | ⟨hq, hc⟩ | hc | hc
      · have u1 : G ≤ 2 := hGj 1 hq
        clear hF hGj
        omega
      · have u1 : G ≤ 16 := hGj 4 hq
        clear hF hGj
        omega
      · clear hF hGj
        omega
      · clear hF hGj
        omega
    · show 4096 * C + (655360 * N2 + 4587520 - 16384 * A2) ≤ 1150976 + F
      have f3 : 655360 * N + 4587520 - 16384 * A ≤ F := hF 3 (by omega) (by decide)
      have g1 : G ≤ 4 := hGj 2 (by omega)
      rcases hC2 with ⟨hq, hc⟩ | ⟨hq, hc⟩ | hc | hc
      · have u1 : G ≤ 2 := hGj 1 hq
        clear hF hGj
        omega
      · have u1 : G ≤ 16 := hGj 4 hq
        clear hF hGj
        omega
      · clear hF hGj
        omega
      · clear hF hGj
        omega
    · show 4096 * C + (589824 * N2 + 4128768 - 8192 * A2) ≤ 1150976 + F
      have f3 : 655360 * N + 4587520 - 16384 * A ≤ F := hF 3 (by omega) (by decide)
      have f4 : 589824 * N + 4128768 - 8192 * A ≤ F := hF 4 (by omega) (by decide)
      have g1 : G ≤ 4 := hGj 2 (by omega)
      rcases hC2 with ⟨hq, hc⟩ | ⟨hq, hc⟩ | hc | hc
      · have u1 : G ≤ 2 := hGj 1 hq
        clear hF hGj
        omega
      · have u1 : G ≤ 16 := hGj 4 hq
        clear hF hGj
        omega
      · clear hF hGj
        omega
      · clear hF hGj
        omega
    · show 4096 * C + (524288 * N2 + 3670016 - 4096 * A2) ≤ 1150976 + F
      have f3 : 655360 * N + 4587520 - 16384 * A ≤ F := hF 3 (by omega) (by decide)
      have f4 : 589824 * N + 4128768 - 8192 * A ≤ F := hF 4 (by omega) (by decide)
      have g1 : G ≤ 4 := hGj 2 (by omega)
      rcases hC2 with ⟨hq, hc⟩ | ⟨hq, hc⟩ | hc | hc
      · have u1 : G ≤ 2 := hGj 1 hq
        clear hF hGj
        omega
      · have u1 : G ≤ 16 := hGj 4 hq
        clear hF hGj
        omega
      · clear hF hGj
        omega
      · clear hF hGj
        omega
    · show 4096 * C + (458752 * N2 + 3211264 - 2048 * A2) ≤ 1150976 + F
      have f3 : 655360 * N + 4587520 - 16384 * A ≤ F := hF 3 (by omega) (by decide)
      have f4 : 589824 * N + 4128768 - 8192 * A ≤ F := hF 4 (by omega) (by decide)
      have f5 : 524288 * N + 3670016 - 4096 * A ≤ F := hF 5 (by omega) (by decide)
      have g1 : G ≤ 4 := hGj 2 (by omega)
      rcases hC2 with ⟨hq, hc⟩ | ⟨hq, hc⟩ | hc | hc
      · have u1 : G ≤ 2 := hGj 1 hq
        clear hF hGj
        omega
      · have u1 : G ≤ 16 := hGj 4 hq
        clear hF hGj
        omega
      · clear hF hGj
        omega
      · clear hF hGj
        omega
    · show 4096 * C + (393216 * N2 + 2752512 - 1024 * A2) ≤ 1150976 + F
      have f4 : 589824 * N + 4128768 - 8192 * A ≤ F := hF 4 (by omega) (by decide)
      have f5 : 524288 * N + 3670016 - 4096 * A ≤ F := hF 5 (by omega) (by decide)
      have g1 : G ≤ 4 := hGj 2 (by omega)
      rcases hC2 with ⟨hq, hc⟩ | ⟨hq, hc⟩ | hc | hc
      · have u1 : G ≤ 2 := hGj 1 hq
        clear hF hGj
        omega
      · have u1 : G ≤ 16 := hGj 4 hq
        clear hF hGj
        omega
      · clear hF hGj
        omega
      · clear hF hGj
        omega
    · show 4096 * C + (327680 * N2 + 2293760 - 512 * A2) ≤ 1150976 + F
      have f5 : 524288 * N + 3670016 - 4096 * A ≤ F := hF 5 (by omega) (by decide)
      have f6 : 458752 * N + 3211264 - 2048 * A ≤ F := hF 6 (by omega) (by decide)
      have g1 : G ≤ 4 := hGj 2 (by omega)
      rcases hC2 with ⟨hq, hc⟩ | ⟨hq, hc⟩ | hc | hc
      · have u1 : G ≤ 2 := hGj 1 hq
        clear hF hGj
        omega
      · have u1 : G ≤ 16 := hGj 4 hq
        clear hF hGj
        omega
      · clear hF hGj
        omega
      · clear hF hGj
        omega
    · show 4096 * C + (262144 * N2 + 1835008 - 256 * A2) ≤ 1150976 + F
      have f6 : 458752 * N + 3211264 - 2048 * A ≤ F := hF 6 (by omega) (by decide)
      have f7 : 393216 * N + 2752512 - 1024 * A ≤ F := hF 7 (by omega) (by decide)
      have g1 : G ≤ 4 := hGj 2 (by omega)
      rcases hC2 with ⟨hq, hc⟩ | ⟨hq, hc⟩ | hc | hc
      · have u1 : G ≤ 2 := hGj 1 hq
        clear hF hGj
        omega
      · have u1 : G ≤ 16 := hGj 4 hq
        clear hF hGj
        omega
      · clear hF hGj
        omega
      · clear hF hGj
        omega
    · show 4096 * C + (196608 * N2 + 1376256 - 128 * A2) ≤ 1150976 + F
      have f7 : 393216 * N + 2752512 - 1024 * A ≤ F := hF 7 (by omega) (by decide)
      have f8 : 327680 * N + 2293760 - 512 * A ≤ F := hF 8 (by omega) (by decide)
      have g1 : G ≤ 4 := hGj 2 (by omega)
      rcases hC2 with ⟨hq, hc⟩ | ⟨hq, hc⟩ | hc | hc
      · have u1 : G ≤ 2 := hGj 1 hq
        clear hF hGj
        omega
      · have u1 : G ≤ 16 := hGj 4 hq
        clear hF hGj
        omega
      · clear hF hGj
        omega
      · clear hF hGj
        omega
    · show 4096 * C + (131072 * N2 + 917504 - 64 * A2) ≤ 1150976 + F
      have f9 : 262144 * N + 1835008 - 256 * A ≤ F := hF 9 (by omega) (by decide)
      have g1 : G ≤ 4 := hGj 2 (by omega)
      rcases hC2 with ⟨hq, hc⟩ | ⟨hq, hc⟩ | hc | hc
      · have u1 : G ≤ 2 := hGj 1 hq
        clear hF hGj
        omega
      · have u1 : G ≤ 16 := hGj 4 hq
        clear hF hGj
        omega
      · clear hF hGj
        omega
      · clear hF hGj
        omega
    · show 4096 * C + (65536 * N2 + 458752 - 32 * A2) ≤ 1150976 + F
      have f10 : 196608 * N + 1376256 - 128 * A ≤ F := hF 10 (by omega) (by decide)
      have g1 : G ≤ 4 := hGj 2 (by omega)
      rcases hC2 with ⟨hq, hc⟩ | ⟨hq, hc⟩ | hc | hc
      · have u1 : G ≤ 2 := hGj 1 hq
        clear hF hGj
        omega
      · have u1 : G ≤ 16 := hGj 4 hq
        clear hF hGj
        omega
      · clear hF hGj
        omega
      · clear hF hGj
        omega
  ·
    have f3 : 655360 * N + 4587520 - 16384 * A ≤ F := hF 3 (by omega) (by decide)
    have g1 : G ≤ 4 := hGj 2 (by omega)
    rcases hC2 with ⟨hq, hc⟩ | ⟨hq, hc⟩ | hc | hc
    · have u1 : G ≤ 2 := hGj 1 hq
      clear hF hGj
      omega
    · have u1 : G ≤ 16 := hGj 4 hq
      clear hF hGj
      omega
    · clear hF hGj
      omega
    · clear hF hGj
      omega
theorem qr_x4 {g : Nat} {A N E z C F A2 N2 G : Int} (hF0 : 0 ≤ F) (hF : ∀ i : Nat, g ≤ i → i < 13 → qr_l i A N ≤ F) (hN : 1 ≤ N) (hN1 : N = 1 → 512 ≤ A) (hz : 0 ≤ z) (hE : 0 ≤ E) (h1 : A ≤ N * 16) (h3 : z * 16 ≤ 65536) (h4 : z * 16 ≤ 2 * E) (hC : C ≤ 529) (hm : (A2 = A + E ∧ N2 = N + 1) ∨ (3 ≤ N ∧ A + E - G ≤ 2 * A2 ∧ 2 * N2 ≤ N + 2)) (hg : g ≤ 3) (hG : 1 ≤ G ∧ G ≤ 8) (hGj : ∀ j : Nat, g ≤ j → G ≤ 2 ^ j) (h2 : N * 8 < A) (hC2 : (g ≤ 1 ∧ C ≤ 8 * z + 45) ∨ (g ≤ 4 ∧ C ≤ 8 * z + 27) ∨ C ≤ 8 * z + 0 ∨ (g = 0 ∧ G = 1 ∧ 47 ≤ z ∧ C ≤ 8 * z + 153) ∨ (1 ≤ g ∧ 29 ≤ z ∧ C ≤ 8 * z + 144)) : (∀ j : Nat, g ≤ j → j < 13 → 4096 * C + qr_l j A2 N2 ≤ 1150976 + F) ∧ 4096 * C ≤ 1150976 + F := by
  constructor
  · intro j hj1 hj2
    have hjs : j = 0 ∨ j = 1 ∨ j = 2 ∨ j = 3 ∨ j = 4 ∨ j = 5 ∨ j = 6 ∨ j = 7 ∨ j = 8 ∨ j = 9 ∨ j = 10 ∨ j = 11 ∨ j = 12 := by omega
    rcases hjs with rfl | rfl | rfl | rfl | rfl | rfl | rfl | rfl | rfl | rfl | rfl | rfl | rfl
    · show 4096 * C + (851968 * N2 + 5963776 - 131072 * A2) ≤ 1150976 + F
      have f0 : 851968 * N + 5963776 - 131072 * A ≤ F := hF 0 (by omega) (by decide)
      have f1 : 786432 * N + 5505024 - 65536 * A ≤ F := hF 1 (by omega) (by decide)
      have g1 : G ≤ 1 := hGj 0 (by omega)
      rcases hC2 with ⟨hq, hc⟩ | ⟨hq, hc⟩ | hc | hc
      · have u1 : G ≤ 2 := hGj 1 hq
        clear hF hGj
        omega
      · have u1 : G ≤ 16 := hGj 4 hq
        clear hF hGj
        omega
      · clear hF hGj
        omega
      · clear hF hGj
        omega
    · show 4096 * C + (786432 * N2 + 5505024 - 65536 * A2) ≤ 1150976 + F
      have f1 : 786432 * N + 5505024 - 65536 * A ≤ F := hF 1 (by omega) (by decide)
      have f2 : 720896 * N + 5046272 - 32768 * A ≤ F := hF 2 (by omega) (by decide)
      have g1 : G ≤ 2 := hGj 1 (by omega)
      rcases hC2 with ⟨hq, hc⟩ | ⟨hq, hc⟩ | hc | hc
      · have u1 : G ≤ 2 := hGj 1 hq
        clear hF hGj
        omega
      · have u1 : G ≤ 16 := hGj 4 hq
        clear hF hGj
        omega
      · clear hF hGj
        omega
      · clear hF hGj
        omega
    · show 4096 * C + (720896 * N2 + 5046272 - 32768 * A2) ≤ 1150976 + F
      have f2 : 720896 * N + 5046272 - 32768 * A ≤ F := hF 2 (by omega) (by decide)
      have g1 : G ≤ 4 := hGj 2 (by omega)
      rcases hC2 with ⟨hq, hc⟩ | ⟨hq, hc⟩ | hc | hc
      · have u1 : G ≤ 2 := hGj 1 hq
        clear hF hGj
        omega
      · have u1 : G ≤ 16 := hGj 4 hq
        clear hF hGj
        omega
      · clear hF hGj
        omega
      · clear hF hGj
        omega
    · show 4096 * C + (655360 * N2 + 4587520 - 16384 * A2) ≤ 1150976 + F
      have f3 : 655360 * N + 4587520 - 16384 * A ≤ F := hF 3 (by omega) (by decide)
      have g1 : G ≤ 8 := hGj 3 (by omega)
      rcases hC2 with ⟨hq, hc⟩ | ⟨hq, hc⟩ | hc | hc
      · have u1 : G ≤ 2 := hGj 1 hq
        clear hF hGj
        omega
      · have u1 : G ≤ 16 := hGj 4 hq
        clear hF hGj
        omega
      · clear hF hGj
        omega
      · clear hF hGj
        omega
    · show 4096 * C + (589824 * N2 + 4128768 - 8192 * A2) ≤ 1150976 + F
      have f4 : 589824 * N + 4128768 - 8192 * A ≤ F := hF 4 (by omega) (by decide)
      have g1 : G ≤ 8 := hGj 3 (by omega)
      rcases hC2 with ⟨hq, hc⟩ | ⟨hq, hc⟩ | hc | hc
      · have u1 : G ≤ 2 := hGj 1 hq
        clear hF hGj
        omega
      · have u1 : G ≤ 16 := hGj 4 hq
        clear hF hGj
        omega
      · clear hF hGj
        omega
      · clear hF hGj
        omega
    · show 4096 * C + (524288 * N2 + 3670016 - 4096 * A2) ≤ 1150976 + F
      have f4 : 589824 * N + 4128768 - 8192 * A ≤ F := hF 4 (by omega) (by decide)
      have f5 : 524288 * N + 3670016 - 4096 * A ≤ F := hF 5 (by omega) (by decide)
      have g1 : G ≤ 8 := hGj 3 (by omega)
      rcases hC2 with ⟨hq, hc⟩ | ⟨hq, hc⟩ | hc | hc
      · have u1 : G ≤ 2 := hGj 1 hq
        clear hF hGj
        omega
      · have u1 : G ≤ 16 := hGj 4 hq
        clear hF hGj
        omega
      · clear hF hGj
        omega
      · clear hF hGj
        omega
    · show 4096 * C + (458752 * N2 + 3211264 - 2048 * A2) ≤ 1150976 + F
      have f4 : 589824 * N + 4128768 - 8192 * A ≤ F := hF 4 (by omega) (by decide)
      have f5 : 524288 * N + 3670016 - 4096 * A ≤ F := hF 5 (by omega) (by decide)
      have g1 : G ≤ 8 := hGj 3 (by omega)
      rcases hC2 with ⟨hq, hc⟩ | ⟨hq, hc⟩ | hc | hc
      · have u1 : G ≤ 2 := hGj 1 hq
        clear hF hGj
        omega
      · have u1 : G ≤ 16 := hGj 4 hq
        clear hF hGj
        omega
      · clear hF hGj
        omega
      · clear hF hGj
        omega
    · show 4096 * C + (393216 * N2 + 2752512 - 1024 * A2) ≤ 1150976 + F
      have f5 : 524288 * N + 3670016 - 4096 * A ≤ F := hF 5 (by omega) (by decide)
      have f6 : 458752 * N + 3211264 - 2048 * A ≤ F := hF 6 (by omega) (by decide)
      have g1 : G ≤ 8 := hGj 3 (by omega)
      rcases hC2 with ⟨hq, hc⟩ | ⟨hq, hc⟩ | hc | hc
      · have u1 : G ≤ 2 := hGj 1 hq
        clear hF hGj
        omega
      · have u1 : G ≤ 16 := hGj 4 hq
        clear hF hGj
        omega
      · clear hF hGj
        omega
      · clear hF hGj
        omega
    · show 4096 * C + (327680 * N2 + 2293760 - 512 * A2) ≤ 1150976 + F
      have f5 : 524288 * N + 3670016 - 4096 * A ≤ F := hF 5 (by omega) (by decide)
      have f6 : 458752 * N + 3211264 - 2048 * A ≤ F := hF 6 (by omega) (by decide)
      have g1 : G ≤ 8 := hGj 3 (by omega)
      rcases hC2 with ⟨hq, hc⟩ | ⟨hq, hc⟩ | hc | hc
      · have u1 : G ≤ 2 := hGj 1 hq
        clear hF hGj
        omega
      · have u1 : G ≤ 16 := hGj 4 hq
        clear hF hGj
        omega
      · clear hF hGj
        omega
      · clear hF hGj
        omega
    · show 4096 * C + (262144 * N2 + 1835008 - 256 * A2) ≤ 1150976 + F
      have f6 : 458752 * N + 3211264 - 2048 * A ≤ F := hF 6 (by omega) (by decide)
      have f7 : 393216 * N + 2752512 - 1024 * A ≤ F := hF 7 (by omega) (by decide)
      have g1 : G ≤ 8 := hGj 3 (by omega)
      rcases hC2 with ⟨hq, hc⟩ | ⟨hq, hc⟩ | hc | hc
      · have u1 : G ≤ 2 := hGj 1 hq
        clear hF hGj
        omega
      · have u1 : G ≤ 16 := hGj 4 hq
        clear hF hGj
        omega
      · clear hF hGj
        omega
      · clear hF hGj
        omega
    · show 4096 * C + (196608 * N2 + 1376256 - 128 * A2) ≤ 1150976 + F
      have f8 : 327680 * N + 2293760 - 512 * A ≤ F := hF 8 (by omega) (by decide)
      have g1 : G ≤ 8 := hGj 3 (by omega)
      rcases hC2 with ⟨hq, hc⟩ | ⟨hq, hc⟩ | hc | hc
      · have u1 : G ≤ 2 := hGj 1 hq
        clear hF hGj
        omega
      · have u1 : G ≤ 16 := hGj 4 hq
        clear hF hGj
        omega
      · clear hF hGj
        omega
      · clear hF hGj
        omega
    · show 4096 * C + (131072 * N2 + 917504 - 64 * A2) ≤ 1150976 + F
      have f9 : 262144 * N + 1835008 - 256 * A ≤ F := hF 9 (by omega) (by decide)
      have g1 : G ≤ 8 := hGj 3 (by omega)
      rcases hC2 with ⟨hq, hc⟩ | ⟨hq, hc⟩ | hc | hc
      · have u1 : G ≤ 2 := hGj 1 hq
        clear hF hGj
        omega
      · have u1 : G ≤ 16 := hGj 4 hq
        clear hF hGj
        omega
      · clear hF hGj
        omega
      · clear hF hGj
        omega
    · show 4096 * C + (65536 * N2 + 458752 - 32 * A2) ≤ 1150976 + F
      have f10 : 196608 * N + 1376256 - 128 * A ≤ F := hF 10 (by omega) (by decide)
      have g1 : G ≤ 8 := hGj 3 (by omega)
      rcases hC2 with ⟨hq, hc⟩ | ⟨hq, hc⟩ | hc | hc
      · have u1 : G ≤ 2 := hGj 1 hq
        clear hF hGj
        omega
      · have u1 : G ≤ 16 := hGj 4 hq
        clear hF hGj
        omega
      · clear hF hGj
        omega
      · clear hF hGj
        omega
  ·
    have f4 : 589824 * N + 4128768 - 8192 * A ≤ F := hF 4 (by omega) (by decide)
    have g1 : G ≤ 8 := hGj 3 (by omega)
    rcases hC2 with ⟨hq, hc⟩ | ⟨hq, hc⟩ | hc | hc
    · have u1 : G ≤ 2 := hGj 1 hq
      clear hF hGj
      omega
    · have u1 : G ≤ 16 := hGj 4 hq
      clear hF hGj
      omega
    · clear hF hGj
      omega
    · clear hF hGj
      omega
theorem qr_x5 {g : Nat} {A N E z C F A2 N2 G : Int} (hF0 : 0 ≤ F) (hF : ∀ i : Nat, g ≤ i → i < 13 → qr_l i A N ≤ F) (hN : 1 ≤ N) (hN1 : N = 1 → 512 ≤ A) (hz : 0 ≤ z) (hE : 0 ≤ E) (h1 : A ≤ N * 32) (h3 : z * 32 ≤ 65536) (h4 : z * 32 ≤ 2 * E) (hC : C ≤ 529) (hm : (A2 = A + E ∧ N2 = N + 1) ∨ (3 ≤ N ∧ A + E - G ≤ 2 * A2 ∧ 2 * N2 ≤ N + 2)) (hg : g ≤ 4) (hG : 1 ≤ G ∧ G ≤ 16) (hGj : ∀ j : Nat, g ≤ j → G ≤ 2 ^ j) (h2 : N * 16 < A) (hC2 : (g ≤ 1 ∧ C ≤ 8 * z + 54) ∨ (g ≤ 4 ∧ C ≤ 8 * z + 36) ∨ C ≤ 8 * z + 9 ∨ (g = 0 ∧ G = 1 ∧ 47 ≤ z ∧ C ≤ 8 * z + 153) ∨ (1 ≤ g ∧ 29 ≤ z ∧ C ≤ 8 * z + 144)) : (∀ j : Nat, g ≤ j → j < 13 → 4096 * C + qr_l j A2 N2 ≤ 1150976 + F) ∧ 4096 * C ≤ 1150976 + F := by
  constructor
  · intro j hj1 hj2
    have hjs : j = 0 ∨ j = 1 ∨ j = 2 ∨ j = 3 ∨ j = 4 ∨ j = 5 ∨ j = 6 ∨ j = 7 ∨ j = 8 ∨ j = 9 ∨ j = 10 ∨ j = 11 ∨ j = 12 := by omega
    rcases hjs with rfl | rfl | rfl | rfl | rfl | rfl | rfl | rfl | rfl | rfl | rfl | rfl | rfl
    · show 4096 * C + (851968 * N2 + 5963776 - 131072 * A2) ≤ 1150976 + F
      have f0 : 851968 * N + 5963776 - 131072 * A ≤ F := hF 0 (by omega) (by decide)
      have f1 : 786432 * N + 5505024 - 65536 * A ≤ F := hF 1 (by omega) (by decide)
      have g1 : G ≤ 1 := hGj 0 (by omega)
      rcases hC2 with ⟨hq, hc⟩ | ⟨hq, hc⟩ | hc | hc
      · have u1 : G ≤ 2 := hGj 1 hq
        clear hF hGj
        omega
      · have u1 : G ≤ 16 := hGj 4 hq
        clear hF hGj
        omega
      · clear hF hGj
        omega
      · clear hF hGj
        omega
    · show 4096 * C + (786432 * N2 + 5505024 - 65536 * A2) ≤ 1150976 + F
      have f1 : 786432 * N + 5505024 - 65536 * A ≤ F := hF 1 (by omega) (by decide)
      have f2 : 720896 * N + 5046272 - 32768 * A ≤ F := hF 2 (by omega) (by decide)
      have g1 : G ≤ 2 := hGj 1 (by omega)
      rcases hC2 with ⟨hq, hc⟩ | ⟨hq, hc⟩ | hc | hc
      · have u1 : G ≤ 2 := hGj 1 hq
        clear hF hGj
        omega
      · have u1 : G ≤ 16 := hGj 4 hq
        clear hF hGj
        omega
      · clear hF hGj
        omega
      · clear hF hGj
        omega
    · show 4096 * C + (720896 * N2 + 5046272 - 32768 * A2) ≤ 1150976 + F
      have f2 : 720896 * N + 5046272 - 32768 * A ≤ F := hF 2 (by omega) (by decide)
      have f3 : 655360 * N + 4587520 - 16384 * A ≤ F := hF 3 (by omega) (by decide)
      have g1 : G ≤ 4 := hGj 2 (by omega)
      rcases hC2 with ⟨hq, hc⟩ | ⟨hq, hc⟩ | hc | hc
      · have u1 : G ≤ 2 := hGj 1 hq
        clear hF hGj
        omega
      · have u1 : G ≤ 16 := hGj 4 hq
        clear hF hGj
        omega
      · clear hF hGj
        omega
      · clear hF hGj
        omega
    · show 4096 * C + (655360 * N2 + 4587520 - 16384 * A2) ≤ 1150976 + F
      have f3 : 655360 * N + 4587520 - 16384 * A ≤ F := hF 3 (by omega) (by decide)
      have g1 : G ≤ 8 := hGj 3 (by omega)
      rcases hC2 with ⟨hq, hc⟩ | ⟨hq, hc⟩ | hc | hc
      · have u1 : G ≤ 2 := hGj 1 hq
        clear hF hGj
        omega
      · have u1 : G ≤ 16 := hGj 4 hq
        clear hF hGj
        omega
      · clear hF hGj
        omega
      · clear hF hGj
        omega
    · show 4096 * C + (589824 * N2 + 4128768 - 8192 * A2) ≤ 1150976 + F
      have f4 : 589824 * N + 4128768 - 8192 * A ≤ F := hF 4 (by omega) (by decide)
      have g1 : G ≤ 16 := hGj 4 (by omega)
      rcases hC2 with ⟨hq, hc⟩ | ⟨hq, hc⟩ | hc | hc
      · have u1 : G ≤ 2 := hGj 1 hq
        clear hF hGj
        omega
      · have u1 : G ≤ 16 := hGj 4 hq
        clear hF hGj
        omega
      · clear hF hGj
        omega
      · clear hF hGj
        omega
    · show 4096 * C + (524288 * N2 + 3670016 - 4096 * A2) ≤ 1150976 + F
      have f5 : 524288 * N + 3670016 - 4096 * A ≤ F := hF 5 (by omega) (by decide)
      have g1 : G ≤ 16 := hGj 4 (by omega)
      rcases hC2 with ⟨hq, hc⟩ | ⟨hq, hc⟩ | hc | hc
      · have u1 : G ≤ 2 := hGj 1 hq
        clear hF hGj
        omega
      · have u1 : G ≤ 16 := hGj 4 hq
        clear hF hGj
        omega
      · clear hF hGj
        omega
      · clear hF hGj
        omega
    · show 4096 * C + (458752 * N2 + 3211264 - 2048 * A2) ≤ 1150976 + F
      have f5 : 524288 * N + 3670016 - 4096 * A ≤ F := hF 5 (by omega) (by decide)
      have f6 : 458752 * N + 3211264 - 2048 * A ≤ F := hF 6 (by omega) (by decide)
      have g1 : G ≤ 16 := hGj 4 (by omega)
      rcases hC2 with ⟨hq, hc⟩ | ⟨hq, hc⟩ | hc | hc
      · have u1 : G ≤ 2 := hGj 1 hq
        clear hF hGj
        omega
      · have u1 : G ≤ 16 := hGj 4 hq
        clear hF hGj
        omega
      · clear hF hGj
        omega
      · clear hF hGj
        omega
    · show 4096 * C + (393216 * N2 + 2752512 - 1024 * A2) ≤ 1150976 + F
      have f5 : 524288 * N + 3670016 - 4096 * A ≤ F := hF 5 (by omega) (by decide)
      have f6 : 458752 * N + 3211264 - 2048 * A ≤ F := hF 6 (by omega) (by decide)
      have g1 : G ≤ 16 := hGj 4 (by omega)
      rcases hC2 with ⟨hq, hc⟩ | ⟨hq, hc⟩ | hc | hc
      · have u1 : G ≤ 2 := hGj 1 hq
        clear hF hGj
        omega
      · have u1 : G ≤ 16 := hGj 4 hq
        clear hF hGj
        omega
      · clear hF hGj
        omega
      · clear hF hGj
        omega
    · show 4096 * C + (327680 * N2 + 2293760 - 512 * A2) ≤ 1150976 + F
      have f6 : 458752 * N + 3211264 - 2048 * A ≤ F := hF 6 (by omega) (by decide)
      have g1 : G ≤ 16 := hGj 4 (by omega)
      rcases hC2 with ⟨hq, hc⟩ | ⟨hq, hc⟩ | hc | hc
      · have u1 : G ≤ 2 := hGj 1 hq
        clear hF hGj
        omega
      · have u1 : G ≤ 16 := hGj 4 hq
        clear hF hGj
        omega
      · clear hF hGj
        omega
      · clear hF hGj
        omega
    · show 4096 * C + (262144 * N2 + 1835008 - 256 * A2) ≤ 1150976 + F
      have f7 : 393216 * N + 2752512 - 1024 * A ≤ F := hF 7 (by omega) (by decide)
      have g1 : G ≤ 16 := hGj 4 (by omega)
      rcases hC2 with ⟨hq, hc⟩ | ⟨hq, hc⟩ | hc | hc
      · have u1 : G ≤ 2 := hGj 1 hq
        clear hF hGj
        omega
      · have u1 : G ≤ 16 := hGj 4 hq
        clear hF hGj
        omega
      · clear hF hGj
        omega
      · clear hF hGj
        omega
    · show 4096 * C + (196608 * N2 + 1376256 - 128 * A2) ≤ 1150976 + F
      have f8 : 327680 * N + 2293760 - 512 * A ≤ F := hF 8 (by omega) (by decide)
      have g1 : G ≤ 16 := hGj 4 (by omega)
      rcases hC2 with ⟨hq, hc⟩ | ⟨hq, hc⟩ | hc | hc
      · have u1 : G ≤ 2 := hGj 1 hq
        clear hF hGj
        omega
      · have u1 : G ≤ 16 := hGj 4 hq
        clear hF hGj
        omega
      · clear hF hGj
        omega
      · clear hF hGj
        omega
    · show 4096 * C + (131072 * N2 + 917504 - 64 * A2) ≤ 1150976 + F
      have f9 : 262144 * N + 1835008 - 256 * A ≤ F := hF 9 (by omega) (by decide)
      have g1 : G ≤ 16 := hGj 4 (by omega)
      rcases hC2 with ⟨hq, hc⟩ | ⟨hq, hc⟩ | hc | hc
      · have u1 : G ≤ 2 := hGj 1 hq
        clear hF hGj
        omega
      · have u1 : G ≤ 16 := hGj 4 hq
        clear hF hGj
        omega
      · clear hF hGj
        omega
      · clear hF hGj
        omega
    · show 4096 * C + (65536 * N2 + 458752 - 32 * A2) ≤ 1150976 + F
      have f10 : 196608 * N + 1376256 - 128 * A ≤ F := hF 10 (by omega) (by decide)
      have g1 : G ≤ 16 := hGj 4 (by omega)
      rcases hC2 with ⟨hq, hc⟩ | ⟨hq, hc⟩ | hc | hc
      · have u1 : G ≤ 2 := hGj 1 hq
        clear hF hGj
        omega
      · have u1 : G ≤ 16 := hGj 4 hq
        clear hF hGj
        omega
      · clear hF hGj
        omega
      · clear hF hGj
        omega
  ·
    have f5 : 524288 * N + 3670016 - 4096 * A ≤ F := hF 5 (by omega) (by decide)
    have g1 : G ≤ 16 := hGj 4 (by omega)
    rcases hC2 with ⟨hq, hc⟩ | ⟨hq, hc⟩ | hc | hc
    · have u1 : G ≤ 2 := hGj 1 hq
      clear hF hGj
      omega
    · have u1 : G ≤ 16 := hGj 4 hq
      clear hF hGj
      omega
    · clear hF hGj
      omega
    · clear hF hGj
      omega
theorem qr_x6 {g : Nat} {A N E z C F A2 N2 G : Int} (hF0 : 0 ≤ F) (hF : ∀ i : Nat, g ≤ i → i < 13 → qr_l i A N ≤ F) (hN : 1 ≤ N) (hN1 : N = 1 → 512 ≤ A) (hz : 0 ≤ z) (hE : 0 ≤ E) (h1 : A ≤ N * 64) (h3 : z * 64 ≤ 65536) (h4 : z * 64 ≤ 2 * E) (hC : C ≤ 529) (hm : (A2 = A + E ∧ N2 = N + 1) ∨ (3 ≤ N ∧ A + E - G ≤ 2 * A2 ∧ 2 * N2 ≤ N + 2)) (hg : g ≤ 5) (hG : 1 ≤ G ∧ G ≤ 32) (hGj : ∀ j : Nat, g ≤ j → G ≤ 2 ^ j) (h2 : N * 32 < A) (hC2 : (g ≤ 1 ∧ C ≤ 8 * z + 63) ∨ (g ≤ 4 ∧ C ≤ 8 * z + 45) ∨ C ≤ 8 * z + 18 ∨ (g = 0 ∧ G = 1 ∧ 47 ≤ z ∧ C ≤ 8 * z + 153) ∨ (1 ≤ g ∧ 29 ≤ z ∧ C ≤ 8 * z + 144)) : (∀ j : Nat, g ≤ j → j < 13 → 4096 * C + qr_l j A2 N2 ≤ 1150976 + F) ∧ 4096 * C ≤ 1150976 + F := by
  constructor
  · intro j hj1 hj2
    have hjs : j = 0 ∨ j = 1 ∨ j = 2 ∨ j = 3 ∨ j = 4 ∨ j = 5 ∨ j = 6 ∨ j = 7 ∨ j = 8 ∨ j = 9 ∨ j = 10 ∨ j = 11 ∨ j = 12 := by omega
    rcases hjs with rfl | rfl | rfl | rfl | rfl | rfl | rfl | rfl | rfl | rfl | rfl | rfl | rfl
    · show 4096 * C + (851968 * N2 + 5963776 - 131072 * A2) ≤ 1150976 + F
      have f1 : 786432 * N + 5505024 - 65536 * A ≤ F := hF 1 (by omega) (by decide)
      have g1 : G ≤ 1 := hGj 0 (by omega)
      rcases hC2 with ⟨hq, hc⟩ | ⟨hq, hc⟩ | hc | hc
      · have u1 : G ≤ 2 := hGj 1 hq
        clear hF hGj
        omega
      · have u1 : G ≤ 16 := hGj 4 hq
        clear hF hGj
        omega
      · clear hF hGj
        omega
      · clear hF hGj
        omega
    · show 4096 * C + (786432 * N2 + 5505024 - 65536 * A2) ≤ 1150976 + F
      have f1 : 786432 * N + 5505024 - 65536 * A ≤ F := hF 1 (by omega) (by decide)
      have f2 : 720896 * N + 5046272 - 32768 * A ≤ F := hF 2 (by omega) (by decide)
      have g1 : G ≤ 2 := hGj 1 (by omega)
      rcases hC2 with ⟨hq, hc⟩ | ⟨hq, hc⟩ | hc | hc
      · have u1 : G ≤ 2 := hGj 1 hq
        clear hF hGj
        omega
      · have u1 : G ≤ 16 := hGj 4 hq
        clear hF hGj
        omega
      · clear hF hGj
        omega
      · clear hF hGj
        omega
    · show 4096 * C + (720896 * N2 + 5046272 - 32768 * A2) ≤ 1150976 + F
      have f2 : 720896 * N + 5046272 - 32768 * A ≤ F := hF 2 (by omega) (by decide)
      have f3 : 655360 * N + 4587520 - 16384 * A ≤ F := hF 3 (by omega) (by decide)
      have g1 : G ≤ 4 := hGj 2 (by omega)
      rcases hC2 with ⟨hq, hc⟩ | ⟨hq, hc⟩ | hc | hc
      · have u1 : G ≤ 2 := hGj 1 hq
        clear hF hGj
        omega
      · have u1 : G ≤ 16 := hGj 4 hq
        clear hF hGj
        omega
      · clear hF hGj
        omega
      · clear hF hGj
        omega
    · show 4096 * C + (655360 * N2 + 4587520 - 16384 * A2) ≤ 1150976 + F
      have f3 : 655360 * N + 4587520 - 16384 * A ≤ F := hF 3 (by omega) (by decide)
      have f4 : 589824 * N + 4128768 - 8192 * A ≤ F := hF 4 (by omega) (by decide)
      have g1 : G ≤ 8 := hGj 3 (by omega)
      rcases hC2 with ⟨hq, hc⟩ | ⟨hq, hc⟩ | hc | hc
      · have u1 : G ≤ 2 := hGj 1 hq
        clear hF hGj
        omega
      · have u1 : G ≤ 16 := hGj 4 hq
        clear hF hGj
        omega
      · clear hF hGj
        omega
      · clear hF hGj
        omega
    · show 4096 * C + (589824 * N2 + 4128768 - 8192 * A2) ≤ 1150976 + F
      have f4 : 589824 * N + 4128768 - 8192 * A ≤ F := hF 4 (by omega) (by decide)
      have g1 : G ≤ 16 := hGj 4 (by omega)
      rcases hC2 with ⟨hq, hc⟩ | ⟨hq, hc⟩ | hc | hc
      · have u1 : G ≤ 2 := hGj 1 hq
        clear hF hGj
        omega
      · have u1 : G ≤ 16 := hGj 4 hq
        clear hF hGj
        omega
      · clear hF hGj
        omega
      · clear hF hGj
        omega
    · show 4096 * C + (524288 * N2 + 3670016 - 4096 * A2) ≤ 1150976 + F
      have f5 : 524288 * N + 3670016 - 4096 * A ≤ F := hF 5 (by omega) (by decide)
      have g1 : G ≤ 32 := hGj 5 (by omega)
      rcases hC2 with ⟨hq, hc⟩ | ⟨hq, hc⟩ | hc | hc
      · have u1 : G ≤ 2 := hGj 1 hq
        clear hF hGj
        omega
      · have u1 : G ≤ 16 := hGj 4 hq
        clear hF hGj
        omega
      · clear hF hGj
        omega
      · clear hF hGj
        omega
    · show 4096 * C + (458752 * N2 + 3211264 - 2048 * A2) ≤ 1150976 + F
      have f6 : 458752 * N + 3211264 - 2048 * A ≤ F := hF 6 (by omega) (by decide)
      have g1 : G ≤ 32 := hGj 5 (by omega)
      rcases hC2 with ⟨hq, hc⟩ | ⟨hq, hc⟩ | hc | hc
      · have u1 : G ≤ 2 := hGj 1 hq
        clear hF hGj
        omega
      · have u1 : G ≤ 16 := hGj 4 hq
        clear hF hGj
        omega
      · clear hF hGj
        omega
      · clear hF hGj
        omega
    · show 4096 * C + (393216 * N2 + 2752512 - 1024 * A2) ≤ 1150976 + F
      have f6 : 458752 * N + 3211264 - 2048 * A ≤ F := hF 6 (by omega) (by decide)
      have f7 : 393216 * N + 2752512 - 1024 * A ≤ F := hF 7 (by omega) (by decide)
      have g1 : G ≤ 32 := hGj 5 (by omega)
      rcases hC2 with ⟨hq, hc⟩ | ⟨hq, hc⟩ | hc | hc
      · have u1 : G ≤ 2 := hGj 1 hq
        clear hF hGj
        omega
      · have u1 : G ≤ 16 := hGj 4 hq
        clear hF hGj
        omega
      · clear hF hGj
        omega
      · clear hF hGj
        omega
    · show 4096 * C + (327680 * N2 + 2293760 - 512 * A2) ≤ 1150976 + F
      have f6 : 458752 * N + 3211264 - 2048 * A ≤ F := hF 6 (by omega) (by decide)
      have f7 : 393216 * N + 2752512 - 1024 * A ≤ F := hF 7 (by omega) (by decide)
      have g1 : G ≤ 32 := hGj 5 (by omega)
      rcases hC2 with ⟨hq, hc⟩ | ⟨hq, hc⟩ | hc | hc
      · have u1 : G ≤ 2 := hGj 1 hq
        clear hF hGj
        omega
      · have u1 : G ≤ 16 := hGj 4 hq
        clear hF hGj
        omega
      · clear hF hGj
        omega
      · clear hF hGj
        omega
    · show 4096 * C + (262144 * N2 + 1835008 - 256 * A2) ≤ 1150976 + F
      have f7 : 393216 * N + 2752512 - 1024 * A ≤ F := hF 7 (by omega) (by decide)
      have g1 : G ≤ 32 := hGj 5 (by omega)
      rcases hC2 with ⟨hq, hc⟩ | ⟨hq, hc⟩ | hc | hc
      · have u1 : G ≤ 2 := hGj 1 hq
        clear hF hGj
        omega
      · have u1 : G ≤ 16 := hGj 4 hq
        clear hF hGj
        omega
      · clear hF hGj
        omega
      · clear hF hGj
        omega
    · show 4096 * C + (196608 * N2 + 1376256 - 128 * A2) ≤ 1150976 + F
      have f8 : 327680 * N + 2293760 - 512 * A ≤ F := hF 8 (by omega) (by decide)
      have g1 : G ≤ 32 := hGj 5 (by omega)
      rcases hC2 with ⟨hq, hc⟩ | ⟨hq, hc⟩ | hc | hc
      · have u1 : G ≤ 2 := hGj 1 hq
        clear hF hGj
        omega
      · have u1 : G ≤ 16 := hGj 4 hq
        clear hF hGj
        omega
      · clear hF hGj
        omega
      · clear hF hGj
        omega
    · show 4096 * C + (131072 * N2 + 917504 - 64 * A2) ≤ 1150976 + F
      have f9 : 262144 * N + 1835008 - 256 * A ≤ F := hF 9 (by omega) (by decide)
      have g1 : G ≤ 32 := hGj 5 (by omega)
      rcases hC2 with ⟨hq, hc⟩ | ⟨hq, hc⟩ | hc | hc
      · have u1 : G ≤ 2 := hGj 1 hq
        clear hF hGj
        omega
      · have u1 : G ≤ 16 := hGj 4 hq
        clear hF hGj
        omega
      · clear hF hGj
        omega
      · clear hF hGj
        omega
    · show 4096 * C + (65536 * N2 + 458752 - 32 * A2) ≤ 1150976 + F
      have f10 : 196608 * N + 1376256 - 128 * A ≤ F := hF 10 (by omega) (by decide)
      have g1 : G ≤ 32 := hGj 5 (by omega)
      rcases hC2 with ⟨hq, hc⟩ | ⟨hq, hc⟩ | hc | hc
      · have u1 : G ≤ 2 := hGj 1 hq
        clear hF hGj
        omega
      · have u1 : G ≤ 16 := hGj 4 hq
        clear hF hGj
        omega
      · clear hF hGj
        omega
      · clear hF hGj
        omega
  ·
    have f6 : 458752 * N + 3211264 - 2048 * A ≤ F := hF 6 (by omega) (by decide)
    have g1 : G ≤ 32 := hGj 5 (by omega)
    rcases hC2 with ⟨hq, hc⟩ | ⟨hq, hc⟩ | hc | hc
    · have u1 : G ≤ 2 := hGj 1 hq
      clear hF hGj
      omega
    · have u1 : G ≤ 16 := hGj 4 hq
      clear hF hGj
      omega
    · clear hF hGj
      omega
    · clear hF hGj
      omega
theorem qr_x7 {g : Nat} {A N E z C F A2 N2 G : Int} (hF0 : 0 ≤ F) (hF : ∀ i : Nat, g ≤ i → i < 13 → qr_l i A N ≤ F) (hN : 1 ≤ N) (hN1 : N = 1 → 512 ≤ A) (hz : 0 ≤ z) (hE : 0 ≤ E) (h1 : A ≤ N * 128) (h3 : z * 128 ≤ 65536) (h4 : z * 128 ≤ 2 * E) (hC : C ≤ 529) (hm : (A2 = A + E ∧ N2 = N + 1) ∨ (3 ≤ N ∧ A + E - G ≤ 2 * A2 ∧ 2 * N2 ≤ N + 2)) (hg : g ≤ 6) (hG : 1 ≤ G ∧ G ≤ 64) (hGj : ∀ j : Nat, g ≤ j → G ≤ 2 ^ j) (h2 : N * 64 < A) (hC2 : (g ≤ 1 ∧ C ≤ 8 * z + 72) ∨ (g ≤ 4 ∧ C ≤ 8 * z + 54) ∨ C ≤ 8 * z + 27 ∨ (g = 0 ∧ G = 1 ∧ 47 ≤ z ∧ C ≤ 8 * z + 153) ∨ (1 ≤ g ∧ 29 ≤ z ∧ C ≤ 8 * z + 144)) : (∀ j : Nat, g ≤ j → j < 13 → 4096 * C + qr_l j A2 N2 ≤ 1150976 + F) ∧ 4096 * C ≤ 1150976 + F := by
  constructor
  · intro j hj1 hj2
    have hjs : j = 0 ∨ j = 1 ∨ j = 2 ∨ j = 3 ∨ j = 4 ∨ j = 5 ∨ j = 6 ∨ j = 7 ∨ j = 8 ∨ j = 9 ∨ j = 10 ∨ j = 11 ∨ j = 12 := by omega
    rcases hjs with rfl | rfl | rfl | rfl | rfl | rfl | rfl | rfl | rfl | rfl | rfl | rfl | rfl
    · show 4096 * C + (851968 * N2 + 5963776 - 131072 * A2) ≤ 1150976 + F
      have g1 : G ≤ 1 := hGj 0 (by omega)
      rcases hC2 with ⟨hq, hc⟩ | ⟨hq, hc⟩ | hc | hc
      · have u1 : G ≤ 2 := hGj 1 hq
        clear hF hGj
        omega
      · have u1 : G ≤ 16 := hGj 4 hq
        clear hF hGj
        omega
      · clear hF hGj
        omega
      · clear hF hGj
        omega
    · show 4096 * C + (786432 * N2 + 5505024 - 65536 * A2) ≤ 1150976 + F
      have f2 : 720896 * N + 5046272 - 32768 * A ≤ F := hF 2 (by omega) (by decide)
      have g1 : G ≤ 2 := hGj 1 (by omega)
      rcases hC2 with ⟨hq, hc⟩ | ⟨hq, hc⟩ | hc | hc
      · have u1 : G ≤ 2 := hGj 1 hq
        clear hF hGj
        omega
      · have u1 : G ≤ 16 := hGj 4 hq
        clear hF hGj
        omega
      · clear hF hGj
        omega
      · clear hF hGj
        omega
    · show 4096 * C + (720896 * N2 + 5046272 - 32768 * A2) ≤ 1150976 + F
      have f2 : 720896 * N + 5046272 - 32768 * A ≤ F := hF 2 (by omega) (by decide)
      have f3 : 655360 * N + 4587520 - 16384 * A ≤ F := hF 3 (by omega) (by decide)
      have g1 : G ≤ 4 := hGj 2 (by omega)
      rcases hC2 with ⟨hq, hc⟩ | ⟨hq, hc⟩ | hc | hc
      · have u1 : G ≤ 2 := hGj 1 hq
        clear hF hGj
        omega
      · have u1 : G ≤ 16 := hGj 4 hq
        clear hF hGj
        omega
      · clear hF hGj
        omega
      · clear hF hGj
        omega
    · show 4096 * C + (655360 * N2 + 4587520 - 16384 * A2) ≤ 1150976 + F
      have f3 : 655360 * N + 4587520 - 16384 * A ≤ F := hF 3 (by omega) (by decide)
      have f4 : 589824 * N + 4128768 - 8192 * A ≤ F := hF 4 (by omega) (by decide)
      have g1 : G ≤ 8 := hGj 3 (by omega)
      rcases hC2 with ⟨hq, hc⟩ | ⟨hq, hc⟩ | hc | hc
      · have u1 : G ≤ 2 := hGj 1 hq
        clear hF hGj
        omega
      · have u1 : G ≤ 16 := hGj 4 hq
        clear hF hGj
        omega
      · clear hF hGj
        omega
      · clear hF hGj
        omega
    · show 4096 * C + (589824 * N2 + 4128768 - 8192 * A2) ≤ 1150976 + F
      have f4 : 589824 * N + 4128768 - 8192 * A ≤ F := hF 4 (by omega) (by decide)
      have f5 : 524288 * N + 3670016 - 4096 * A ≤ F := hF 5 (by omega) (by decide)
      have g1 : G ≤ 16 := hGj 4 (by omega)
      rcases hC2 with ⟨hq, hc⟩ | ⟨hq, hc⟩ | hc | hc
      · have u1 : G ≤ 2 := hGj 1 hq
        clear hF hGj
        omega
      · have u1 : G ≤ 16 := hGj 4 hq
        clear hF hGj
        omega
      · clear hF hGj
        omega
      · clear hF hGj
        omega
    · show 4096 * C + (524288 * N2 + 3670016 - 4096 * A2) ≤ 1150976 + F
      have f5 : 524288 * N + 3670016 - 4096 * A ≤ F := hF 5 (by omega) (by decide)
      have g1 : G ≤ 32 := hGj 5 (by omega)
      rcases hC2 with ⟨hq, hc⟩ | ⟨hq, hc⟩ | hc | hc
      · have u1 : G ≤ 2 := hGj 1 hq
        clear hF hGj
        omega
      · have u1 : G ≤ 16 := hGj 4 hq
        clear hF hGj
        omega
      · clear hF hGj
        omega
      · clear hF hGj
        omega
    · show 4096 * C + (458752 * N2 + 3211264 - 2048 * A2) ≤ 1150976 + F
      have f6 : 458752 * N + 3211264 - 2048 * A ≤ F := hF 6 (by omega) (by decide)
      have g1 : G ≤ 64 := hGj 6 (by omega)
      rcases hC2 with ⟨hq, hc⟩ | ⟨hq, hc⟩ | hc | hc
      · have u1 : G ≤ 2 := hGj 1 hq
        clear hF hGj
        omega
      · have u1 : G ≤ 16 := hGj 4 hq
        clear hF hGj
        omega
      · clear hF hGj
        omega
      · clear hF hGj
        omega
    · show 4096 * C + (393216 * N2 + 2752512 - 1024 * A2) ≤ 1150976 + F
      have f7 : 393216 * N + 2752512 - 1024 * A ≤ F := hF 7 (by omega) (by decide)
      have g1 : G ≤ 64 := hGj 6 (by omega)
      rcases hC2 with ⟨hq, hc⟩ | ⟨hq, hc⟩ | hc | hc
      · have u1 : G ≤ 2 := hGj 1 hq
        clear hF hGj
        omega
      · have u1 : G ≤ 16 := hGj 4 hq
        clear hF hGj
        omega
      · clear hF hGj
        omega
      · clear hF hGj
        omega
    · show 4096 * C + (327680 * N2 + 2293760 - 512 * A2) ≤ 1150976 + F
      have f7 : 393216 * N + 2752512 - 1024 * A ≤ F := hF 7 (by omega) (by decide)
      have f8 : 327680 * N + 2293760 - 512 * A ≤ F := hF 8 (by omega) (by decide)
      have g1 : G ≤ 64 := hGj 6 (by omega)
      rcases hC2 with ⟨hq, hc⟩ | ⟨hq, hc⟩ | hc | hc
      · have u1 : G ≤ 2 := hGj 1 hq
        clear hF hGj
        omega
      · have u1 : G ≤ 16 := hGj 4 hq
        clear hF hGj
        omega
      · clear hF hGj
        omega
      · clear hF hGj
        omega
    · show 4096 * C + (262144 * N2 + 1835008 - 256 * A2) ≤ 1150976 + F
      have f8 : 327680 * N + 2293760 - 512 * A ≤ F := hF 8 (by omega) (by decide)
      have g1 : G ≤ 64 := hGj 6 (by omega)
      rcases hC2 with ⟨hq, hc⟩ | ⟨hq, hc⟩ | hc | hc
      · have u1 : G ≤ 2 := hGj 1 hq
        clear hF hGj
        omega
      · have u1 : G ≤ 16 := hGj 4 hq
        clear hF hGj
        omega
      · clear hF hGj
        omega
      · clear hF hGj
        omega
    · show 4096 * C + (196608 * N2 + 1376256 - 128 * A2) ≤ 1150976 + F
      have f8 : 327680 * N + 2293760 - 512 * A ≤ F := hF 8 (by omega) (by decide)
      have g1 : G ≤ 64 := hGj 6 (by omega)
      rcases hC2 with ⟨hq, hc⟩ | ⟨hq, hc⟩ | hc | hc
      · have u1 : G ≤ 2 := hGj 1 hq
        clear hF hGj
        omega
      · have u1 : G ≤ 16 := hGj 4 hq
        clear hF hGj
        omega
      · clear hF hGj
        omega
      · clear hF hGj
        omega
    · show 4096 * C + (131072 * N2 + 917504 - 64 * A2) ≤ 1150976 + F
      have f9 : 262144 * N + 1835008 - 256 * A ≤ F := hF 9 (by omega) (by decide)
      have g1 : G ≤ 64 := hGj 6 (by omega)
      rcases hC2 with ⟨hq, hc⟩ | ⟨hq, hc⟩ | hc | hc
      · have u1 : G ≤ 2 := hGj 1 hq
        clear hF hGj
        omega
      · have u1 : G ≤ 16 := hGj 4 hq
        clear hF hGj
        omega
      · clear hF hGj
        omega
      · clear hF hGj
        omega
    · show 4096 * C + (65536 * N2 + 458752 - 32 * A2) ≤ 1150976 + F
      have f10 : 196608 * N + 1376256 - 128 * A ≤ F := hF 10 (by omega) (by decide)
      have g1 : G ≤ 64 := hGj 6 (by omega)
      rcases hC2 with ⟨hq, hc⟩ | ⟨hq, hc⟩ | hc | hc
      · have u1 : G ≤ 2 := hGj 1 hq
        clear hF hGj
        omega
      · have u1 : G ≤ 16 := hGj 4 hq
        clear hF hGj
        omega
      · clear hF hGj
        omega
      · clear hF hGj
        omega
  ·
    have f7 : 393216 * N + 2752512 - 1024 * A ≤ F := hF 7 (by omega) (by decide)
    have g1 : G ≤ 64 := hGj 6 (by omega)
    rcases hC2 with ⟨hq, hc⟩ | ⟨hq, hc⟩ | hc | hc
    · have u1 : G ≤ 2 := hGj 1 hq
      clear hF hGj
      omega
    · have u1 : G ≤ 16 := hGj 4 hq
      clear hF hGj
      omega
    · clear hF hGj
      omega
    · clear hF hGj
      omega
theorem qr_x8 {g : Nat} {A N E z C F A2 N2 G : Int} (hF0 : 0 ≤ F) (hF : ∀ i : Nat, g ≤ i → i < 13 → qr_l i A N ≤ F) (hN : 1 ≤ N) (hN1 : N = 1 → 512 ≤ A) (hz : 0 ≤ z) (hE : 0 ≤ E) (h1 : A ≤ N * 256) (h3 : z * 256 ≤ 65536) (h4 : z * 256 ≤ 2 * E) (hC : C ≤ 529) (hm : (A2 = A + E ∧ N2 = N + 1) ∨ (3 ≤ N ∧ A + E - G ≤ 2 * A2 ∧ 2 * N2 ≤ N + 2)) (hg : g ≤ 7) (hG : 1 ≤ G ∧ G ≤ 128) (hGj : ∀ j : Nat, g ≤ j → G ≤ 2 ^ j) (h2 : N * 128 < A) (hC2 : (g ≤ 1 ∧ C ≤ 8 * z + 81) ∨ (g ≤ 4 ∧ C ≤ 8 * z + 63) ∨ C ≤ 8 * z + 36 ∨ (g = 0 ∧ G = 1 ∧ 47 ≤ z ∧ C ≤ 8 * z + 153) ∨ (1 ≤ g ∧ 29 ≤ z ∧ C ≤ 8 * z + 144)) : (∀ j : Nat, g ≤ j → j < 13 → 4096 * C + qr_l j A2 N2 ≤ 1150976 + F) ∧ 4096 * C ≤ 1150976 + F := by
  constructor
  · intro j hj1 hj2
    have hjs : j = 0 ∨ j = 1 ∨ j = 2 ∨ j = 3 ∨ j = 4 ∨ j = 5 ∨ j = 6 ∨ j = 7 ∨ j = 8 ∨ j = 9 ∨ j = 10 ∨ j = 11 ∨ j = 12 := by omega
    rcases hjs with rfl | rfl | rfl | rfl | rfl | rfl | rfl | rfl | rfl | rfl | rfl | rfl | rfl
    · show 4096 * C + (851968 * N2 + 5963776 - 131072 * A2) ≤ 1150976 + F
      have g1 : G ≤ 1 := hGj 0 (by omega)
      rcases hC2 with ⟨hq, hc⟩ | ⟨hq, hc⟩ | hc | hc
      · have u1 : G ≤ 2 := hGj 1 hq
        clear hF hGj
        omega
      · have u1 : G ≤ 16 := hGj 4 hq
        clear hF hGj
        omega
      · clear hF hGj
        omega
      · clear hF hGj
        omega
    · show 4096 * C + (786432 * N2 + 5505024 - 65536 * A2) ≤ 1150976 + F
      have g1 : G ≤ 2 := hGj 1 (by omega)
      rcases hC2 with ⟨hq, hc⟩ | ⟨hq, hc⟩ | hc | hc
      · have u1 : G ≤ 2 := hGj 1 hq
        clear hF hGj
        omega
      · have u1 : G ≤ 16 := hGj 4 hq
        clear hF hGj
        omega
      · clear hF hGj
        omega
      · clear hF hGj
        omega
    · show 4096 * C + (720896 * N2 + 5046272 - 32768 * A2) ≤ 1150976 + F
      have g1 : G ≤ 4 := hGj 2 (by omega)
      rcases hC2 with ⟨hq, hc⟩ | ⟨hq, hc⟩ | hc | hc
      · have u1 : G ≤ 2 := hGj 1 hq
        clear hF hGj
        omega
      · have u1 : G ≤ 16 := hGj 4 hq
        clear hF hGj
        omega
      · clear hF hGj
        omega
      · clear hF hGj
        omega
    · show 4096 * C + (655360 * N2 + 4587520 - 16384 * A2) ≤ 1150976 + F
      have f3 : 655360 * N + 4587520 - 16384 * A ≤ F := hF 3 (by omega) (by decide)
      have f4 : 589824 * N + 4128768 - 8192 * A ≤ F := hF 4 (by omega) (by decide)
      have g1 : G ≤ 8 := hGj 3 (by omega)
      rcases hC2 with ⟨hq, hc⟩ | ⟨hq, hc⟩ | hc | hc
      · have u1 : G ≤ 2 := hGj 1 hq
        clear hF hGj
        omega
      · have u1 : G ≤ 16 := hGj 4 hq
        clear hF hGj
        omega
      · clear hF hGj
        omega
      · clear hF hGj
        omega
    · show 4096 * C + (589824 * N2 + 4128768 - 8192 * A2) ≤ 1150976 + F
      have f4 : 589824 * N + 4128768 - 8192 * A ≤ F := hF 4 (by omega) (by decide)
      have f5 : 524288 * N + 3670016 - 4096 * A ≤ F := hF 5 (by omega) (by decide)
      have g1 : G ≤ 16 := hGj 4 (by omega)
      rcases hC2 with ⟨hq, hc⟩ | ⟨hq, hc⟩ | hc | hc
      · have u1 : G ≤ 2 := hGj 1 hq
        clear hF hGj
        omega
      · have u1 : G ≤ 16 := hGj 4 hq
        clear hF hGj
        omega
      · clear hF hGj
        omega
      · clear hF hGj
        omega
    · show 4096 * C + (524288 * N2 + 3670016 - 4096 * A2) ≤ 1150976 + F
      have f5 : 524288 * N + 3670016 - 4096 * A ≤ F := hF 5 (by omega) (by decide)
      have f6 : 458752 * N + 3211264 - 2048 * A ≤ F := hF 6 (by omega) (by decide)
      have g1 : G ≤ 32 := hGj 5 (by omega)
      rcases hC2 with ⟨hq, hc⟩ | ⟨hq, hc⟩ | hc | hc
      · have u1 : G ≤ 2 := hGj 1 hq
        clear hF hGj
        omega
      · have u1 : G ≤ 16 := hGj 4 hq
        clear hF hGj
        omega
      · clear hF hGj
        omega
      · clear hF hGj
        omega
    · show 4096 * C + (458752 * N2 + 3211264 - 2048 * A2) ≤ 1150976 + F
      have f6 : 458752 * N + 3211264 - 2048 * A ≤ F := hF 6 (by omega) (by decide)
      have f7 : 393216 * N + 2752512 - 1024 * A ≤ F := hF 7 (by omega) (by decide)
      have g1 : G ≤ 64 := hGj 6 (by omega)
      rcases hC2 with ⟨hq, hc⟩ | ⟨hq, hc⟩ | hc | hc
      · have u1 : G ≤ 2 := hGj 1 hq
        clear hF hGj
        omega
      · have u1 : G ≤ 16 := hGj 4 hq
        clear hF hGj
        omega
      · clear hF hGj
        omega
      · clear hF hGj
        omega
    · show 4096 * C + (393216 * N2 + 2752512 - 1024 * A2) ≤ 1150976 + F
      have f7 : 393216 * N + 2752512 - 1024 * A ≤ F := hF 7 (by omega) (by decide)
      have g1 : G ≤ 128 := hGj 7 (by omega)
      rcases hC2 with ⟨hq, hc⟩ | ⟨hq, hc⟩ | hc | hc
      · have u1 : G ≤ 2 := hGj 1 hq
        clear hF hGj
        omega
      · have u1 : G ≤ 16 := hGj 4 hq
        clear hF hGj
        omega
      · clear hF hGj
        omega
      · clear hF hGj
        omega
    · show 4096 * C + (327680 * N2 + 2293760 - 512 * A2) ≤ 1150976 + F
      have f8 : 327680 * N + 2293760 - 512 * A ≤ F := hF 8 (by omega) (by decide)
      have g1 : G ≤ 128 := hGj 7 (by omega)
      rcases hC2 with ⟨hq, hc⟩ | ⟨hq, hc⟩ | hc | hc
      · have u1 : G ≤ 2 := hGj 1 hq
        clear hF hGj
        omega
      · have u1 : G ≤ 16 := hGj 4 hq
        clear hF hGj
        omega
      · clear hF hGj
        omega
      · clear hF hGj
        omega
    · show 4096 * C + (262144 * N2 + 1835008 - 256 * A2) ≤ 1150976 + F
      have f8 : 327680 * N + 2293760 - 512 * A ≤ F := hF 8 (by omega) (by decide)
      have f9 : 262144 * N + 1835008 - 256 * A ≤ F := hF 9 (by omega) (by decide)
      have g1 : G ≤ 128 := hGj 7 (by omega)
      rcases hC2 with ⟨hq, hc⟩ | ⟨hq, hc⟩ | hc | hc
      · have u1 : G ≤ 2 := hGj 1 hq
        clear hF hGj
        omega
      · have u1 : G ≤ 16 := hGj 4 hq
        clear hF hGj
        omega
      · clear hF hGj
        omega
      · clear hF hGj
        omega
    · show 4096 * C + (196608 * N2 + 1376256 - 128 * A2) ≤ 1150976 + F
      have f8 : 327680 * N + 2293760 - 512 * A ≤ F := hF 8 (by omega) (by decide)
      have f9 : 262144 * N + 1835008 - 256 * A ≤ F := hF 9 (by omega) (by decide)
      have g1 : G ≤ 128 := hGj 7 (by omega)
      rcases hC2 with ⟨hq, hc⟩ | ⟨hq, hc⟩ | hc | hc
      · have u1 : G ≤ 2 := hGj 1 hq
        clear hF hGj
        omega
      · have u1 : G ≤ 16 := hGj 4 hq
        clear hF hGj
        omega
      · clear hF hGj
        omega
      · clear hF hGj
        omega
    · show 4096 * C + (131072 * N2 + 917504 - 64 * A2) ≤ 1150976 + F
      have f9 : 262144 * N + 1835008 - 256 * A ≤ F := hF 9 (by omega) (by decide)
      have g1 : G ≤ 128 := hGj 7 (by omega)
      rcases hC2 with ⟨hq, hc⟩ | ⟨hq, hc⟩ | hc | hc
      · have u1 : G ≤ 2 := hGj 1 hq
        clear hF hGj
        omega
      · have u1 : G ≤ 16 := hGj 4 hq
        clear hF hGj
        omega
      · clear hF hGj
        omega
      · clear hF hGj
        omega
    · show 4096 * C + (65536 * N2 + 458752 - 32 * A2) ≤ 1150976 + F
      have f10 : 196608 * N + 1376256 - 128 * A ≤ F := hF 10 (by omega) (by decide)
      have g1 : G ≤ 128 := hGj 7 (by omega)
      rcases hC2 with ⟨hq, hc⟩ | ⟨hq, hc⟩ | hc | hc
      · have u1 : G ≤ 2 := hGj 1 hq
        clear hF hGj
        omega
      · have u1 : G ≤ 16 := hGj 4 hq
        clear hF hGj
        omega
      · clear hF hGj
        omega
      · clear hF hGj
        omega
  ·
    have f8 : 327680 * N + 2293760 - 512 * A ≤ F := hF 8 (by omega) (by decide)
    have g1 : G ≤ 128 := hGj 7 (by omega)
    rcases hC2 with ⟨hq, hc⟩ | ⟨hq, hc⟩ | hc | hc
    · have u1 : G ≤ 2 := hGj 1 hq
      clear hF hGj
      omega
    · have u1 : G ≤ 16 := hGj 4 hq
      clear hF hGj
      omega
    · clear hF hGj
      omega
    · clear hF hGj
      omega
theorem qr_x9 {g : Nat} {A N E z C F A2 N2 G : Int} (hF0 : 0 ≤ F) (hF : ∀ i : Nat, g ≤ i → i < 13 → qr_l i A N ≤ F) (hN : 1 ≤ N) (hN1 : N = 1 → 512 ≤ A) (hz : 0 ≤ z) (hE : 0 ≤ E) (h1 : A ≤ N * 512) (h3 : z * 512 ≤ 65536) (h4 : z * 512 ≤ 2 * E) (hC : C ≤ 529) (hm : (A2 = A + E ∧ N2 = N + 1) ∨ (3 ≤ N ∧ A + E - G ≤ 2 * A2 ∧ 2 * N2 ≤ N + 2)) (hg : g ≤ 8) (hG : 1 ≤ G ∧ G ≤ 256) (hGj : ∀ j : Nat, g ≤ j → G ≤ 2 ^ j) (h2 : N * 256 < A) (hC2 : (g ≤ 1 ∧ C ≤ 8 * z + 90) ∨ (g ≤ 4 ∧ C ≤ 8 * z + 72) ∨ C ≤ 8 * z + 45 ∨ (g = 0 ∧ G = 1 ∧ 47 ≤ z ∧ C ≤ 8 * z + 153) ∨ (1 ≤ g ∧ 29 ≤ z ∧ C ≤ 8 * z + 144)) : (∀ j : Nat, g ≤ j → j < 13 → 4096 * C + qr_l j A2 N2 ≤ 1150976 + F) ∧ 4096 * C ≤ 1150976 + F := by
  constructor
  · intro j hj1 hj2
    have hjs : j = 0 ∨ j = 1 ∨ j = 2 ∨ j = 3 ∨ j = 4 ∨ j = 5 ∨ j = 6 ∨ j = 7 ∨ j = 8 ∨ j = 9 ∨ j = 10 ∨ j = 11 ∨ j = 12 := by omega
    rcases hjs with rfl | rfl | rfl | rfl | rfl | rfl | rfl | rfl | rfl | rfl | rfl | rfl | rfl
    · show 4096 * C + (851968 * N2 + 5963776 - 131072 * A2) ≤ 1150976 + F
      have g1 : G ≤ 1 := hGj 0 (by omega)
      rcases hC2 with ⟨hq, hc⟩ | ⟨hq, hc⟩ | hc | hc
      · have u1 : G ≤ 2 := hGj 1 hq
        clear hF hGj
        omega
      · have u1 : G ≤ 16 := hGj 4 hq
        clear hF hGj
        omega
      · clear hF hGj
        omega
      · clear hF hGj
        omega
    · show 4096 * C + (786432 * N2 + 5505024 - 65536 * A2) ≤ 1150976 + F
      have g1 : G ≤ 2 := hGj 1 (by omega)
      rcases hC2 with ⟨hq, hc⟩ | ⟨hq, hc⟩ | hc | hc
      · have u1 : G ≤ 2 := hGj 1 hq
        clear hF hGj
        omega
      · have u1 : G ≤ 16 := hGj 4 hq
        clear hF hGj
        omega
      · clear hF hGj
        omega
      · clear hF hGj
        omega
    · show 4096 * C + (720896 * N2 + 5046272 - 32768 * A2) ≤ 1150976 + F
      have g1 : G ≤ 4 := hGj 2 (by omega)
      rcases hC2 with ⟨hq, hc⟩ | ⟨hq, hc⟩ | hc | hc
      · have u1 : G ≤ 2 := hGj 1 hq
        clear hF hGj
        omega
      · have u1 : G ≤ 16 := hGj 4 hq
        clear hF hGj
        omega
      · clear hF hGj
        omega
      · clear hF hGj
        omega
    · show 4096 * C + (655360 * N2 + 4587520 - 16384 * A2) ≤ 1150976 + F
      have g1 : G ≤ 8 := hGj 3 (by omega)
      rcases hC2 with ⟨hq, hc⟩ | ⟨hq, hc⟩ | hc | hc
      · have u1 : G ≤ 2 := hGj 1 hq
        clear hF hGj
        omega
      · have u1 : G ≤ 16 := hGj 4 hq
        clear hF hGj
        omega
      · clear hF hGj
        omega
      · clear hF hGj
        omega
    · show 4096 * C + (589824 * N2 + 4128768 - 8192 * A2) ≤ 1150976 + F
      have f4 : 589824 * N + 4128768 - 8192 * A ≤ F := hF 4 (by omega) (by decide)
      have f5 : 524288 * N + 3670016 - 4096 * A ≤ F := hF 5 (by omega) (by decide)
      have g1 : G ≤ 16 := hGj 4 (by omega)
      rcases hC2 with ⟨hq, hc⟩ | ⟨hq, hc⟩ | hc | hc
      · have u1 : G ≤ 2 := hGj 1 hq
        clear hF hGj
        omega
      · have u1 : G ≤ 16 := hGj 4 hq
        clear hF hGj
        omega
      · clear hF hGj
        omega
      · clear hF hGj
        omega
    · show 4096 * C + (524288 * N2 + 3670016 - 4096 * A2) ≤ 1150976 + F
      have f5 : 524288 * N + 3670016 - 4096 * A ≤ F := hF 5 (by omega) (by decide)
      have f6 : 458752 * N + 3211264 - 2048 * A ≤ F := hF 6 (by omega) (by decide)
      have g1 : G ≤ 32 := hGj 5 (by omega)
      rcases hC2 with ⟨hq, hc⟩ | ⟨hq, hc⟩ | hc | hc
      · have u1 : G ≤ 2 := hGj 1 hq
        clear hF hGj
        omega
      · have u1 : G ≤ 16 := hGj 4 hq
        clear hF hGj
        omega
      · clear hF hGj
        omega
      · clear hF hGj
        omega
    · show 4096 * C + (458752 * N2 + 3211264 - 2048 * A2) ≤ 1150976 + F
      have f6 : 458752 * N + 3211264 - 2048 * A ≤ F := hF 6 (by omega) (by decide)
      have f7 : 393216 * N + 2752512 - 1024 * A ≤ F := hF 7 (by omega) (by decide)
      have g1 : G ≤ 64 := hGj 6 (by omega)
      rcases hC2 with ⟨hq, hc⟩ | ⟨hq, hc⟩ | hc | hc
      · have u1 : G ≤ 2 := hGj 1 hq
        clear hF hGj
        omega
      · have u1 : G ≤ 16 := hGj 4 hq
        clear hF hGj
        omega
      · clear hF hGj
        omega
      · clear hF hGj
        omega
    · show 4096 * C + (393216 * N2 + 2752512 - 1024 * A2) ≤ 1150976 + F
      have f7 : 393216 * N + 2752512 - 1024 * A ≤ F := hF 7 (by omega) (by decide)
      have f8 : 327680 * N + 2293760 - 512 * A ≤ F := hF 8 (by omega) (by decide)
      have g1 : G ≤ 128 := hGj 7 (by omega)
      rcases hC2 with ⟨hq, hc⟩ | ⟨hq, hc⟩ | hc | hc
      · have u1 : G ≤ 2 := hGj 1 hq
        clear hF hGj
        omega
      · have u1 : G ≤ 16 := hGj 4 hq
        clear hF hGj
        omega
      · clear hF hGj
        omega
      · clear hF hGj
        omega
    · show 4096 * C + (327680 * N2 + 2293760 - 512 * A2) ≤ 1150976 + F
      have f8 : 327680 * N + 2293760 - 512 * A ≤ F := hF 8 (by omega) (by decide)
      have g1 : G ≤ 256 := hGj 8 (by omega)
      rcases hC2 with ⟨hq, hc⟩ | ⟨hq, hc⟩ | hc | hc
      · have u1 : G ≤ 2 := hGj 1 hq
        clear hF hGj
        omega
      · have u1 : G ≤ 16 := hGj 4 hq
        clear hF hGj
        omega
      · clear hF hGj
        omega
      · clear hF hGj
        omega
    · show 4096 * C + (262144 * N2 + 1835008 - 256 * A2) ≤ 1150976 + F
      have f9 : 262144 * N + 1835008 - 256 * A ≤ F := hF 9 (by omega) (by decide)
      have g1 : G ≤ 256 := hGj 8 (by omega)
      rcases hC2 with ⟨hq, hc⟩ | ⟨hq, hc⟩ | hc | hc
      · have u1 : G ≤ 2 := hGj 1 hq
        clear hF hGj
        omega
      · have u1 : G ≤ 16 := hGj 4 hq
        clear hF hGj
        omega
      · clear hF hGj
        omega
      · clear hF hGj
        omega
    · show 4096 * C + (196608 * N2 + 1376256 - 128 * A2) ≤ 1150976 + F
      have f9 : 262144 * N + 1835008 - 256 * A ≤ F := hF 9 (by omega) (by decide)
      have f10 : 196608 * N + 1376256 - 128 * A ≤ F := hF 10 (by omega) (by decide)
      have g1 : G ≤ 256 := hGj 8 (by omega)
      rcases hC2 with ⟨hq, hc⟩ | ⟨hq, hc⟩ | hc | hc
      · have u1 : G ≤ 2 := hGj 1 hq
        clear hF hGj
        omega
      · have u1 : G ≤ 16 := hGj 4 hq
        clear hF hGj
        omega
      · clear hF hGj
        omega
      · clear hF hGj
        omega
    · show 4096 * C + (131072 * N2 + 917504 - 64 * A2) ≤ 1150976 + F
      have f9 : 262144 * N + 1835008 - 256 * A ≤ F := hF 9 (by omega) (by decide)
      have f10 : 196608 * N + 1376256 - 128 * A ≤ F := hF 10 (by omega) (by decide)
      have g1 : G ≤ 256 := hGj 8 (by omega)
      rcases hC2 with ⟨hq, hc⟩ | ⟨hq, hc⟩ | hc | hc
      · have u1 : G ≤ 2 := hGj 1 hq
        clear hF hGj
        omega
      · have u1 : G ≤ 16 := hGj 4 hq
        clear hF hGj
        omega
      · clear hF hGj
        omega
      · clear hF hGj
        omega
    · show 4096 * C + (65536 * N2 + 458752 - 32 * A2) ≤ 1150976 + F
      have f10 : 196608 * N + 1376256 - 128 * A ≤ F := hF 10 (by omega) (by decide)
      have g1 : G ≤ 256 := hGj 8 (by omega)
      rcases hC2 with ⟨hq, hc⟩ | ⟨hq, hc⟩ | hc | hc
      · have u1 : G ≤ 2 := hGj 1 hq
        clear hF hGj
        omega
      · have u1 : G ≤ 16 := hGj 4 hq
        clear hF hGj
        omega
      · clear hF hGj
        omega
      · clear hF hGj
        omega
  ·
    have f9 : 262144 * N + 1835008 - 256 * A ≤ F := hF 9 (by omega) (by decide)
    have g1 : G ≤ 256 := hGj 8 (by omega)
    rcases hC2 with ⟨hq, hc⟩ | ⟨hq, hc⟩ | hc | hc
    · have u1 : G ≤ 2 := hGj 1 hq
      clear hF hGj
      omega
    · have u1 : G ≤ 16 := hGj 4 hq
      clear hF hGj
      omega
    · clear hF hGj
      omega
    · clear hF hGj
      omega
theorem qr_x10 {g : Nat} {A N E z C F A2 N2 G : Int} (hF0 : 0 ≤ F) (hF : ∀ i : Nat, g ≤ i → i < 13 → qr_l i A N ≤ F) (hN : 1 ≤ N) (hN1 : N = 1 → 512 ≤ A) (hz : 0 ≤ z) (hE : 0 ≤ E) (h1 : A ≤ N * 1024) (h3 : z * 1024 ≤ 65536) (h4 : z * 1024 ≤ 2 * E) (hC : C ≤ 529) (hm : (A2 = A + E ∧ N2 = N + 1) ∨ (3 ≤ N ∧ A + E - G ≤ 2 * A2 ∧ 2 * N2 ≤ N + 2)) (hg : g ≤ 9) (hG : 1 ≤ G ∧ G ≤ 512) (hGj : ∀ j : Nat, g ≤ j → G ≤ 2 ^ j) (h2 : N * 512 < A) (hC2 : (g ≤ 1 ∧ C ≤ 8 * z + 99) ∨ (g ≤ 4 ∧ C ≤ 8 * z + 81) ∨ C ≤ 8 * z + 54 ∨ (g = 0 ∧ G = 1 ∧ 47 ≤ z ∧ C ≤ 8 * z + 153) ∨ (1 ≤ g ∧ 29 ≤ z ∧ C ≤ 8 * z + 144)) : (∀ j : Nat, g ≤ j → j < 13 → 4096 * C + qr_l j A2 N2 ≤ 1150976 + F) ∧ 4096 * C ≤ 1150976 + F := by
  constructor
  · intro j hj1 hj2
    have hjs : j = 0 ∨ j = 1 ∨ j = 2 ∨ j = 3 ∨ j = 4 ∨ j = 5 ∨ j = 6 ∨ j = 7 ∨ j = 8 ∨ j = 9 ∨ j = 10 ∨ j = 11 ∨ j = 12 := by omega
    rcases hjs with rfl | rfl | rfl | rfl | rfl | rfl | rfl | rfl | rfl | rfl | rfl | rfl | rfl
    · show 4096 * C + (851968 * N2 + 5963776 - 131072 * A2) ≤ 1150976 + F
      have g1 : G ≤ 1 := hGj 0 (by omega)
      rcases hC2 with ⟨hq, hc⟩ | ⟨hq, hc⟩ | hc | hc
      · have u1 : G ≤ 2 := hGj 1 hq
        clear hF hGj
        omega
      · have u1 : G ≤ 16 := hGj 4 hq
        clear hF hGj
        omega
      · clear hF hGj
        omega
      · clear hF hGj
        omega
    · show 4096 * C + (786432 * N2 + 5505024 - 65536 * A2) ≤ 1150976 + F
      have g1 : G ≤ 2 := hGj 1 (by omega)
      rcases hC2 with ⟨hq, hc⟩ | ⟨hq, hc⟩ | hc | hc
      · have u1 : G ≤ 2 := hGj 1 hq
        clear hF hGj
        omega
      · have u1 : G ≤ 16 := hGj 4 hq
        clear hF hGj
        omega
      · clear hF hGj
        omega
      · clear hF hGj
        omega
    · show 4096 * C + (720896 * N2 + 5046272 - 32768 * A2) ≤ 1150976 + F
      have g1 : G ≤ 4 := hGj 2 (by omega)
      rcases hC2 with ⟨hq, hc⟩ | ⟨hq, hc⟩ | hc | hc
      · have u1 : G ≤ 2 := hGj 1 hq
        clear hF hGj
        omega
      · have u1 : G ≤ 16 := hGj 4 hq
        clear hF hGj
        omega
      · clear hF hGj
        omega
      · clear hF hGj
        omega
    · show 4096 * C + (655360 * N2 + 4587520 - 16384 * A2) ≤ 1150976 + F
      have g1 : G ≤ 8 := hGj 3 (by omega)
      rcases hC2 with ⟨hq, hc⟩ | ⟨hq, hc⟩ | hc | hc
      · have u1 : G ≤ 2 := hGj 1 hq
        clear hF hGj
        omega
      · have u1 : G ≤ 16 := hGj 4 hq
        clear hF hGj
        omega
      · clear hF hGj
        omega
      · clear hF hGj
        omega
    · show 4096 * C + (589824 * N2 + 4128768 - 8192 * A2) ≤ 1150976 + F
      have f4 : 589824 * N + 4128768 - 8192 * A ≤ F := hF 4 (by omega) (by decide)
      have g1 : G ≤ 16 := hGj 4 (by omega)
      rcases hC2 with ⟨hq, hc⟩ | ⟨hq, hc⟩ | hc | hc
      · have u1 : G ≤ 2 := hGj 1 hq
        clear hF hGj
        omega
      · have u1 : G ≤ 16 := hGj 4 hq
        clear hF hGj
        omega
      · clear hF hGj
        omega
      · clear hF hGj
        omega
    · show 4096 * C + (524288 * N2 + 3670016 - 4096 * A2) ≤ 1150976 + F
      have f5 : 524288 * N + 3670016 - 4096 * A ≤ F := hF 5 (by omega) (by decide)
      have f6 : 458752 * N + 3211264 - 2048 * A ≤ F := hF 6 (by omega) (by decide)
      have g1 : G ≤ 32 := hGj 5 (by omega)
      rcases hC2 with ⟨hq, hc⟩ | ⟨hq, hc⟩ | hc | hc
      · have u1 : G ≤ 2 := hGj 1 hq
        clear hF hGj
        omega
      · have u1 : G ≤ 16 := hGj 4 hq
        clear hF hGj
        omega
      · clear hF hGj
        omega
      · clear hF hGj
        omega
    · show 4096 * C + (458752 * N2 + 3211264 - 2048 * A2) ≤ 1150976 + F
      have f6 : 458752 * N + 3211264 - 2048 * A ≤ F := hF 6 (by omega) (by decide)
      have f7 : 393216 * N + 2752512 - 1024 * A ≤ F := hF 7 (by omega) (by decide)
      have g1 : G ≤ 64 := hGj 6 (by omega)
      rcases hC2 with ⟨hq, hc⟩ | ⟨hq, hc⟩ | hc | hc
      · have u1 : G ≤ 2 := hGj 1 hq
        clear hF hGj
        omega
      · have u1 : G ≤ 16 := hGj 4 hq
        clear hF hGj
        omega
      · clear hF hGj
        omega
      · clear hF hGj
        omega
    · show 4096 * C + (393216 * N2 + 2752512 - 1024 * A2) ≤ 1150976 + F
      have f7 : 393216 * N + 2752512 - 1024 * A ≤ F := hF 7 (by omega) (by decide)
      have f8 : 327680 * N + 2293760 - 512 * A ≤ F := hF 8 (by omega) (by decide)
      have g1 : G ≤ 128 := hGj 7 (by omega)
      rcases hC2 with ⟨hq, hc⟩ | ⟨hq, hc⟩ | hc | hc
      · have u1 : G ≤ 2 := hGj 1 hq
        clear hF hGj
        omega
      · have u1 : G ≤ 16 := hGj 4 hq
        clear hF hGj
        omega
      · clear hF hGj
        omega
      · clear hF hGj
        omega
    · show 4096 * C + (327680 * N2 + 2293760 - 512 * A2) ≤ 1150976 + F
      have f8 : 327680 * N + 2293760 - 512 * A ≤ F := hF 8 (by omega) (by decide)
      have f9 : 262144 * N + 1835008 - 256 * A ≤ F := hF 9 (by omega) (by decide)
      have g1 : G ≤ 256 := hGj 8 (by omega)
      rcases hC2 with ⟨hq, hc⟩ | ⟨hq, hc⟩ | hc | hc
      · have u1 : G ≤ 2 := hGj 1 hq
        clear hF hGj
        omega
      · have u1 : G ≤ 16 := hGj 4 hq
        clear hF hGj
        omega
      · clear hF hGj
        omega
      · clear hF hGj
        omega
    · show 4096 * C + (262144 * N2 + 1835008 - 256 * A2) ≤ 1150976 + F
      have f9 : 262144 * N + 1835008 - 256 * A ≤ F := hF 9 (by omega) (by decide)
      have g1 : G ≤ 512 := hGj 9 (by omega)
      rcases hC2 with ⟨hq, hc⟩ | ⟨hq, hc⟩ | hc | hc
      · have u1 : G ≤ 2 := hGj 1 hq
        clear hF hGj
        omega
      · have u1 : G ≤ 16 := hGj 4 hq
        clear hF hGj
        omega
      · clear hF hGj
        omega
      · clear hF hGj
        omega
    · show 4096 * C + (196608 * N2 + 1376256 - 128 * A2) ≤ 1150976 + F
      have f10 : 196608 * N + 1376256 - 128 * A ≤ F := hF 10 (by omega) (by decide)
      have g1 : G ≤ 512 := hGj 9 (by omega)
      rcases hC2 with ⟨hq, hc⟩ | ⟨hq, hc⟩ | hc | hc
      · have u1 : G ≤ 2 := hGj 1 hq
        clear hF hGj
        omega
      · have u1 : G ≤ 16 := hGj 4 hq
        clear hF hGj
        omega
      · clear hF hGj
        omega
      · clear hF hGj
        omega
    · show 4096 * C + (131072 * N2 + 917504 - 64 * A2) ≤ 1150976 + F
      have f10 : 196608 * N + 1376256 - 128 * A ≤ F := hF 10 (by omega) (by decide)
      have f11 : 131072 * N + 917504 - 64 * A ≤ F := hF 11 (by omega) (by decide)
      have g1 : G ≤ 512 := hGj 9 (by omega)
      rcases hC2 with ⟨hq, hc⟩ | ⟨hq, hc⟩ | hc | hc
      · have u1 : G ≤ 2 := hGj 1 hq
        clear hF hGj
        omega
      · have u1 : G ≤ 16 := hGj 4 hq
        clear hF hGj
        omega
      · clear hF hGj
        omega
      · clear hF hGj
        omega
    · show 4096 * C + (65536 * N2 + 458752 - 32 * A2) ≤ 1150976 + F
      have f10 : 196608 * N + 1376256 - 128 * A ≤ F := hF 10 (by omega) (by decide)
      have f11 : 131072 * N + 917504 - 64 * A ≤ F := hF 11 (by omega) (by decide)
      have g1 : G ≤ 512 := hGj 9 (by omega)
      rcases hC2 with ⟨hq, hc⟩ | ⟨hq, hc⟩ | hc | hc
      · have u1 : G ≤ 2 := hGj 1 hq
        clear hF hGj
        omega
      · have u1 : G ≤ 16 := hGj 4 hq
        clear hF hGj
        omega
      · clear hF hGj
        omega
      · clear hF hGj
        omega
  ·
    have f10 : 196608 * N + 1376256 - 128 * A ≤ F := hF 10 (by omega) (by decide)
    have g1 : G ≤ 512 := hGj 9 (by omega)
    rcases hC2 with ⟨hq, hc⟩ | ⟨hq, hc⟩ | hc | hc
    · have u1 : G ≤ 2 := hGj 1 hq
      clear hF hGj
      omega
    · have u1 : G ≤ 16 := hGj 4 hq
      clear hF hGj
      omega
    · clear hF hGj
      omega
    · clear hF hGj
      omega
theorem qr_x11 {g : Nat} {A N E z C F A2 N2 G : Int} (hF0 : 0 ≤ F) (hF : ∀ i : Nat, g ≤ i → i < 13 → qr_l i A N ≤ F) (hN : 1 ≤ N) (hN1 : N = 1 → 512 ≤ A) (hz : 0 ≤ z) (hE : 0 ≤ E) (h1 : A ≤ N * 2048) (h3 : z * 2048 ≤ 65536) (h4 : z * 2048 ≤ 2 * E) (hC : C ≤ 529) (hm : (A2 = A + E ∧ N2 = N + 1) ∨ (3 ≤ N ∧ A + E - G ≤ 2 * A2 ∧ 2 * N2 ≤ N + 2)) (hg : g ≤ 10) (hG : 1 ≤ G ∧ G ≤ 1024) (hGj : ∀ j : Nat, g ≤ j → G ≤ 2 ^ j) (h2 : N * 1024 < A) (hC2 : (g ≤ 1 ∧ C ≤ 8 * z + 108) ∨ (g ≤ 4 ∧ C ≤ 8 * z + 90) ∨ C ≤ 8 * z + 63 ∨ (g = 0 ∧ G = 1 ∧ 47 ≤ z ∧ C ≤ 8 * z + 153) ∨ (1 ≤ g ∧ 29 ≤ z ∧ C ≤ 8 * z + 144)) : (∀ j : Nat, g ≤ j → j < 13 → 4096 * C + qr_l j A2 N2 ≤ 1150976 + F) ∧ 4096 * C ≤ 1150976 + F := by
  constructor
  · intro j hj1 hj2
    have hjs : j = 0 ∨ j = 1 ∨ j = 2 ∨ j = 3 ∨ j = 4 ∨ j = 5 ∨ j = 6 ∨ j = 7 ∨ j = 8 ∨ j = 9 ∨ j = 10 ∨ j = 11 ∨ j = 12 := by omega
    rcases hjs with rfl | rfl | rfl | rfl | rfl | rfl | rfl | rfl | rfl | rfl | rfl | rfl | rfl
    · show 4096 * C + (851968 * N2 + 5963776 - 131072 * A2) ≤ 1150976 + F
      have g1 : G ≤ 1 := hGj 0 (by omega)
      rcases hC2 with ⟨hq, hc⟩ | ⟨hq, hc⟩ | hc | hc
      · have u1 : G ≤ 2 := hGj 1 hq
        clear hF hGj
        omega
      · have u1 : G ≤ 16 := hGj 4 hq
        clear hF hGj
        omega
      · clear hF hGj
        omega
      · clear hF hGj
        omega
    · show 4096 * C + (786432 * N2 + 5505024 - 65536 * A2) ≤ 1150976 + F
      have g1 : G ≤ 2 := hGj 1 (by omega)
      rcases hC2 with ⟨hq, hc⟩ | ⟨hq, hc⟩ | hc | hc
      · have u1 : G ≤ 2 := hGj 1 hq
        clear hF hGj
        omega
      · have u1 : G ≤ 16 := hGj 4 hq
        clear hF hGj
        omega
      · clear hF hGj
        omega
      · clear hF hGj
        omega
    · show 4096 * C + (720896 * N2 + 5046272 - 32768 * A2) ≤ 1150976 + F
      have g1 : G ≤ 4 := hGj 2 (by omega)
      rcases hC2 with ⟨hq, hc⟩ | ⟨hq, hc⟩ | hc | hc
      · have u1 : G ≤ 2 := hGj 1 hq
        clear hF hGj
        omega
      · have u1 : G ≤ 16 := hGj 4 hq
        clear hF hGj
        omega
      · clear hF hGj
        omega
      · clear hF hGj
        omega
    · show 4096 * C + (655360 * N2 + 4587520 - 16384 * A2) ≤ 1150976 + F
      have g1 : G ≤ 8 := hGj 3 (by omega)
      rcases hC2 with ⟨hq, hc⟩ | ⟨hq, hc⟩ | hc | hc
      · have u1 : G ≤ 2 := hGj 1 hq
        clear hF hGj
        omega
      · have u1 : G ≤ 16 := hGj 4 hq
        clear hF hGj
        omega
      · clear hF hGj
        omega
      · clear hF hGj
        omega
    · show 4096 * C + (589824 * N2 + 4128768 - 8192 * A2) ≤ 1150976 + F
      have g1 : G ≤ 16 := hGj 4 (by omega)
      rcases hC2 with ⟨hq, hc⟩ | ⟨hq, hc⟩ | hc | hc
      · have u1 : G ≤ 2 := hGj 1 hq
        clear hF hGj
        omega
      · have u1 : G ≤ 16 := hGj 4 hq
        clear hF hGj
        omega
      · clear hF hGj
        omega
      · clear hF hGj
        omega
    · show 4096 * C + (524288 * N2 + 3670016 - 4096 * A2) ≤ 1150976 + F
      have g1 : G ≤ 32 := hGj 5 (by omega)
      rcases hC2 with ⟨hq, hc⟩ | ⟨hq, hc⟩ | hc | hc
      · have u1 : G ≤ 2 := hGj 1 hq
        clear hF hGj
        omega
      · have u1 : G ≤ 16 := hGj 4 hq
        clear hF hGj
        omega
      · clear hF hGj
        omega
      · clear hF hGj
        omega
    · show 4096 * C + (458752 * N2 + 3211264 - 2048 * A2) ≤ 1150976 + F
      have f6 : 458752 * N + 3211264 - 2048 * A ≤ F := hF 6 (by omega) (by decide)
      have f7 : 393216 * N + 2752512 - 1024 * A ≤ F := hF 7 (by omega) (by decide)
      have g1 : G ≤ 64 := hGj 6 (by omega)
      rcases hC2 with ⟨hq, hc⟩ | ⟨hq, hc⟩ | hc | hc
      · have u1 : G ≤ 2 := hGj 1 hq
        clear hF hGj
        omega
      · have u1 : G ≤ 16 := hGj 4 hq
        clear hF hGj
        omega
      · clear hF hGj
        omega
      · clear hF hGj
        omega
    · show 4096 * C + (393216 * N2 + 2752512 - 1024 * A2) ≤ 1150976 + F
      have f7 : 393216 * N + 2752512 - 1024 * A ≤ F := hF 7 (by omega) (by decide)
      have f8 : 327680 * N + 2293760 - 512 * A ≤ F := hF 8 (by omega) (by decide)
      have g1 : G ≤ 128 := hGj 7 (by omega)
      rcases hC2 with ⟨hq, hc⟩ | ⟨hq, hc⟩ | hc | hc
      · have u1 : G ≤ 2 := hGj 1 hq
        clear hF hGj
        omega
      · have u1 : G ≤ 16 := hGj 4 hq
        clear hF hGj
        omega
      · clear hF hGj
        omega
      · clear hF hGj
        omega
    · show 4096 * C + (327680 * N2 + 2293760 - 512 * A2) ≤ 1150976 + F
      have f8 : 327680 * N + 2293760 - 512 * A ≤ F := hF 8 (by omega) (by decide)
      have f9 : 262144 * N + 1835008 - 256 * A ≤ F := hF 9 (by omega) (by decide)
      have g1 : G ≤ 256 := hGj 8 (by omega)
      rcases hC2 with ⟨hq, hc⟩ | ⟨hq, hc⟩ | hc | hc
      · have u1 : G ≤ 2 := hGj 1 hq
        clear hF hGj
        omega
      · have u1 : G ≤ 16 := hGj 4 hq
        clear hF hGj
        omega
      · clear hF hGj
        omega
      · clear hF hGj
        omega
    · show 4096 * C + (262144 * N2 + 1835008 - 256 * A2) ≤ 1150976 + F
      have f9 : 262144 * N + 1835008 - 256 * A ≤ F := hF 9 (by omega) (by decide)
      have f10 : 196608 * N + 1376256 - 128 * A ≤ F := hF 10 (by omega) (by decide)
      have g1 : G ≤ 512 := hGj 9 (by omega)
      rcases hC2 with ⟨hq, hc⟩ | ⟨hq, hc⟩ | hc | hc
      · have u1 : G ≤ 2 := hGj 1 hq
        clear hF hGj
        omega
      · have u1 : G ≤ 16 := hGj 4 hq
        clear hF hGj
        omega
      · clear hF hGj
        omega
      · clear hF hGj
        omega
    · show 4096 * C + (196608 * N2 + 1376256 - 128 * A2) ≤ 1150976 + F
      have f10 : 196608 * N + 1376256 - 128 * A ≤ F := hF 10 (by omega) (by decide)
      have f11 : 131072 * N + 917504 - 64 * A ≤ F := hF 11 (by omega) (by decide)
      have g1 : G ≤ 1024 := hGj 10 (by omega)
      rcases hC2 with ⟨hq, hc⟩ | ⟨hq, hc⟩ | hc | hc
      · have u1 : G ≤ 2 := hGj 1 hq
        clear hF hGj
        omega
      · have u1 : G ≤ 16 := hGj 4 hq
        clear hF hGj
        omega
      · clear hF hGj
        omega
      · clear hF hGj
        omega
    · show 4096 * C + (131072 * N2 + 917504 - 64 * A2) ≤ 1150976 + F
      have f11 : 131072 * N + 917504 - 64 * A ≤ F := hF 11 (by omega) (by decide)
      have g1 : G ≤ 1024 := hGj 10 (by omega)
      rcases hC2 with ⟨hq, hc⟩ | ⟨hq, hc⟩ | hc | hc
      · have u1 : G ≤ 2 := hGj 1 hq
        clear hF hGj
        omega
      · have u1 : G ≤ 16 := hGj 4 hq
        clear hF hGj
        omega
      · clear hF hGj
        omega
      · clear hF hGj
        omega
    · show 4096 * C + (65536 * N2 + 458752 - 32 * A2) ≤ 1150976 + F
      have f11 : 131072 * N + 917504 - 64 * A ≤ F := hF 11 (by omega) (by decide)
      have f12 : 65536 * N + 458752 - 32 * A ≤ F := hF 12 (by omega) (by decide)
      have g1 : G ≤ 1024 := hGj 10 (by omega)
      rcases hC2 with ⟨hq, hc⟩ | ⟨hq, hc⟩ | hc | hc
      · have u1 : G ≤ 2 := hGj 1 hq
        clear hF hGj
        omega
      · have u1 : G ≤ 16 := hGj 4 hq
        clear hF hGj
        omega
      · clear hF hGj
        omega
      · clear hF hGj
        omega
  ·
    have f11 : 131072 * N + 917504 - 64 * A ≤ F := hF 11 (by omega) (by decide)
    have g1 : G ≤ 1024 := hGj 10 (by omega)
    rcases hC2 with ⟨hq, hc⟩ | ⟨hq, hc⟩ | hc | hc
    · have u1 : G ≤ 2 := hGj 1 hq
      clear hF hGj
      omega
    · have u1 : G ≤ 16 := hGj 4 hq
      clear hF hGj
      omega
    · clear hF hGj
      omega
    · clear hF hGj
      omega
theorem qr_x12 {g : Nat} {A N E z C F A2 N2 G : Int} (hF0 : 0 ≤ F) (hF : ∀ i : Nat, g ≤ i → i < 13 → qr_l i A N ≤ F) (hN : 1 ≤ N) (hN1 : N = 1 → 512 ≤ A) (hz : 0 ≤ z) (hE : 0 ≤ E) (h1 : A ≤ N * 4096) (h3 : z * 4096 ≤ 65536) (h4 : z * 4096 ≤ 2 * E) (hC : C ≤ 529) (hm : (A2 = A + E ∧ N2 = N + 1) ∨ (3 ≤ N ∧ A + E - G ≤ 2 * A2 ∧ 2 * N2 ≤ N + 2)) (hg : g ≤ 11) (hG : 1 ≤ G ∧ G ≤ 2048) (hGj : ∀ j : Nat, g ≤ j → G ≤ 2 ^ j) (h2 : N * 2048 < A) (hC2 : (g ≤ 1 ∧ C ≤ 8 * z + 117) ∨ (g ≤ 4 ∧ C ≤ 8 * z + 99) ∨ C ≤ 8 * z + 72 ∨ (g = 0 ∧ G = 1 ∧ 47 ≤ z ∧ C ≤ 8 * z + 153) ∨ (1 ≤ g ∧ 29 ≤ z ∧ C ≤ 8 * z + 144)) : (∀ j : Nat, g ≤ j → j < 13 → 4096 * C + qr_l j A2 N2 ≤ 1150976 + F) ∧ 4096 * C ≤ 1150976 + F := by
  constructor
  · intro j hj1 hj2
    have hjs : j = 0 ∨ j = 1 ∨ j = 2 ∨ j = 3 ∨ j = 4 ∨ j = 5 ∨ j = 6 ∨ j = 7 ∨ j = 8 ∨ j = 9 ∨ j = 10 ∨ j = 11 ∨ j = 12 := by omega
    rcases hjs with rfl | rfl | rfl | rfl | rfl | rfl | rfl | rfl | rfl | rfl | rfl | rfl | rfl
    · show 4096 * C + (851968 * N2 + 5963776 - 131072 * A2) ≤ 1150976 + F
      have g1 : G ≤ 1 := hGj 0 (by omega)
      rcases hC2 with ⟨hq, hc⟩ | ⟨hq, hc⟩ | hc | hc
      · have u1 : G ≤ 2 := hGj 1 hq
        clear hF hGj
        omega
      · have u1 : G ≤ 16 := hGj 4 hq
        clear hF hGj
        omega
      · clear hF hGj
        omega
      · clear hF hGj
        omega
    · show 4096 * C + (786432 * N2 + 5505024 - 65536 * A2) ≤ 1150976 + F
      have g1 : G ≤ 2 := hGj 1 (by omega)
      rcases hC2 with ⟨hq, hc⟩ | ⟨hq, hc⟩ | hc | hc
      · have u1 : G ≤ 2 := hGj 1 hq
        clear hF hGj
        omega
      · have u1 : G ≤ 16 := hGj 4 hq
        clear hF hGj
        omega
      · clear hF hGj
        omega
      · clear hF hGj
        omega
    · show 4096 * C + (720896 * N2 + 5046272 - 32768 * A2) ≤ 1150976 + F
      have g1 : G ≤ 4 := hGj 2 (by omega)
      rcases hC2 with ⟨hq, hc⟩ | ⟨hq, hc⟩ | hc | hc
      · have u1 : G ≤ 2 := hGj 1 hq
        clear hF hGj
        omega
      · have u1 : G ≤ 16 := hGj 4 hq
        clear hF hGj
        omega
      · clear hF hGj
        omega
      · clear hF hGj
        omega
    · show 4096 * C + (655360 * N2 + 4587520 - 16384 * A2) ≤ 1150976 + F
      have g1 : G ≤ 8 := hGj 3 (by omega)
      rcases hC2 with ⟨hq, hc⟩ | ⟨hq, hc⟩ | hc | hc
      · have u1 : G ≤ 2 := hGj 1 hq
        clear hF hGj
        omega
      · have u1 : G ≤ 16 := hGj 4 hq
        clear hF hGj
        omega
      · clear hF hGj
        omega
      · clear hF hGj
        omega
    · show 4096 * C + (589824 * N2 + 4128768 - 8192 * A2) ≤ 1150976 + F
      have g1 : G ≤ 16 := hGj 4 (by omega)
      rcases hC2 with ⟨hq, hc⟩ | ⟨hq, hc⟩ | hc | hc
      · have u1 : G ≤ 2 := hGj 1 hq
        clear hF hGj
        omega
      · have u1 : G ≤ 16 := hGj 4 hq
        clear hF hGj
        omega
      · clear hF hGj
        omega
      · clear hF hGj
        omega
    · show 4096 * C + (524288 * N2 + 3670016 - 4096 * A2) ≤ 1150976 + F
      have g1 : G ≤ 32 := hGj 5 (by omega)
      rcases hC2 with ⟨hq, hc⟩ | ⟨hq, hc⟩ | hc | hc
      · have u1 : G ≤ 2 := hGj 1 hq
        clear hF hGj
        omega
      · have u1 : G ≤ 16 := hGj 4 hq
        clear hF hGj
        omega
      · clear hF hGj
        omega
      · clear hF hGj
        omega
    · show 4096 * C + (458752 * N2 + 3211264 - 2048 * A2) ≤ 1150976 + F
      have g1 : G ≤ 64 := hGj 6 (by omega)
      rcases hC2 with ⟨hq, hc⟩ | ⟨hq, hc⟩ | hc | hc
      · have u1 : G ≤ 2 := hGj 1 hq
        clear hF hGj
        omega
      · have u1 : G ≤ 16 := hGj 4 hq
        clear hF hGj
        omega
      · clear hF hGj
        omega
      · clear hF hGj
        omega
    · show 4096 * C + (393216 * N2 + 2752512 - 1024 * A2) ≤ 1150976 + F
      have f7 : 393216 * N + 2752512 - 1024 * A ≤ F := hF 7 (by omega) (by decide)
      have g1 : G ≤ 128 := hGj 7 (by omega)
      rcases hC2 with ⟨hq, hc⟩ | ⟨hq, hc⟩ | hc | hc
      · have u1 : G ≤ 2 := hGj 1 hq
        clear hF hGj
        omega
      · have u1 : G ≤ 16 := hGj 4 hq
        clear hF hGj
        omega
      · clear hF hGj
        omega
      · clear hF hGj
        omega
    · show 4096 * C + (327680 * N2 + 2293760 - 512 * A2) ≤ 1150976 + F
      have f8 : 327680 * N + 2293760 - 512 * A ≤ F := hF 8 (by omega) (by decide)
      have f9 : 262144 * N + 1835008 - 256 * A ≤ F := hF 9 (by omega) (by decide)
      have g1 : G ≤ 256 := hGj 8 (by omega)
      rcases hC2 with ⟨hq, hc⟩ | ⟨hq, hc⟩ | hc | hc
      · have u1 : G ≤ 2 := hGj 1 hq
        clear hF hGj
        omega
      · have u1 : G ≤ 16 := hGj 4 hq
        clear hF hGj
        omega
      · clear hF hGj
        omega
      · clear hF hGj
        omega
    · show 4096 * C + (262144 * N2 + 1835008 - 256 * A2) ≤ 1150976 + F
      have f9 : 262144 * N + 1835008 - 256 * A ≤ F := hF 9 (by omega) (by decide)
      have f10 : 196608 * N + 1376256 - 128 * A ≤ F := hF 10 (by omega) (by decide)
      have g1 : G ≤ 512 := hGj 9 (by omega)
      rcases hC2 with ⟨hq, hc⟩ | ⟨hq, hc⟩ | hc | hc
      · have u1 : G ≤ 2 := hGj 1 hq
        clear hF hGj
        omega
      · have u1 : G ≤ 16 := hGj 4 hq
        clear hF hGj
        omega
      · clear hF hGj
        omega
      · clear hF hGj
        omega
    · show 4096 * C + (196608 * N2 + 1376256 - 128 * A2) ≤ 1150976 + F
      have f10 : 196608 * N + 1376256 - 128 * A ≤ F := hF 10 (by omega) (by decide)
      have f11 : 131072 * N + 917504 - 64 * A ≤ F := hF 11 (by omega) (by decide)
      have g1 : G ≤ 1024 := hGj 10 (by omega)
      rcases hC2 with ⟨hq, hc⟩ | ⟨hq, hc⟩ | hc | hc
      · have u1 : G ≤ 2 := hGj 1 hq
        clear hF hGj
        omega
      · have u1 : G ≤ 16 := hGj 4 hq
        clear hF hGj
        omega
      · clear hF hGj
        omega
      · clear hF hGj
        omega
    · show 4096 * C + (131072 * N2 + 917504 - 64 * A2) ≤ 1150976 + F
      have f11 : 131072 * N + 917504 - 64 * A ≤ F := hF 11 (by omega) (by decide)
      have g1 : G ≤ 2048 := hGj 11 (by omega)
      rcases hC2 with ⟨hq, hc⟩ | ⟨hq, hc⟩ | hc | hc
      · have u1 : G ≤ 2 := hGj 1 hq
        clear hF hGj
        omega
      · have u1 : G ≤ 16 := hGj 4 hq
        clear hF hGj
        omega
      · clear hF hGj
        omega
      · clear hF hGj
        omega
    · show 4096 * C + (65536 * N2 + 458752 - 32 * A2) ≤ 1150976 + F
      have g1 : G ≤ 2048 := hGj 11 (by omega)
      rcases hC2 with ⟨hq, hc⟩ | ⟨hq, hc⟩ | hc | hc
      · have u1 : G ≤ 2 := hGj 1 hq
        clear hF hGj
        omega
      · have u1 : G ≤ 16 := hGj 4 hq
        clear hF hGj
        omega
      · clear hF hGj
        omega
      · clear hF hGj
        omega
  ·
    have g1 : G ≤ 2048 := hGj 11 (by omega)
    rcases hC2 with ⟨hq, hc⟩ | ⟨hq, hc⟩ | hc | hc
    · have u1 : G ≤ 2 := hGj 1 hq
      clear hF hGj
      omega
    · have u1 : G ≤ 16 := hGj 4 hq
      clear hF hGj
      omega
    · clear hF hGj
      omega
    · clear hF hGj
      omega
theorem qr_x13 {g : Nat} {A N E z C F A2 N2 G : Int} (hF0 : 0 ≤ F) (hF : ∀ i : Nat, g ≤ i → i < 13 → qr_l i A N ≤ F) (hN : 1 ≤ N) (hN1 : N = 1 → 512 ≤ A) (hz : 0 ≤ z) (hE : 0 ≤ E) (h1 : A ≤ N * 8192) (h3 : z * 8192 ≤ 65536) (h4 : z * 8192 ≤ 2 * E) (hC : C ≤ 529) (hm : (A2 = A + E ∧ N2 = N + 1) ∨ (3 ≤ N ∧ A + E - G ≤ 2 * A2 ∧ 2 * N2 ≤ N + 2)) (hg : g ≤ 12) (hG : 1 ≤ G ∧ G ≤ 4096) (hGj : ∀ j : Nat, g ≤ j → G ≤ 2 ^ j) (h2 : N * 4096 < A) (hC2 : (g ≤ 1 ∧ C ≤ 8 * z + 126) ∨ (g ≤ 4 ∧ C ≤ 8 * z + 108) ∨ C ≤ 8 * z + 81 ∨ (g = 0 ∧ G = 1 ∧ 47 ≤ z ∧ C ≤ 8 * z + 153) ∨ (1 ≤ g ∧ 29 ≤ z ∧ C ≤ 8 * z + 144)) : (∀ j : Nat, g ≤ j → j < 13 → 4096 * C + qr_l j A2 N2 ≤ 1150976 + F) ∧ 4096 * C ≤ 1150976 + F := by
  constructor
  · intro j hj1 hj2
    have hjs : j = 0 ∨ j = 1 ∨ j = 2 ∨ j = 3 ∨ j = 4 ∨ j = 5 ∨ j = 6 ∨ j = 7 ∨ j = 8 ∨ j = 9 ∨ j = 10 ∨ j = 11 ∨ j = 12 := by omega
    rcases hjs with rfl | rfl | rfl | rfl | rfl | rfl | rfl | rfl | rfl | rfl | rfl | rfl | rfl
    · show 4096 * C + (851968 * N2 + 5963776 - 131072 * A2) ≤ 1150976 + F
      have g1 : G ≤ 1 := hGj 0 (by omega)
      rcases hC2 with ⟨hq, hc⟩ | ⟨hq, hc⟩ | hc | hc
      · have u1 : G ≤ 2 := hGj 1 hq
        clear hF hGj
        omega
      · have u1 : G ≤ 16 := hGj 4 hq
        clear hF hGj
        omega
      · clear hF hGj
        omega
      · clear hF hGj
        omega
    · show 4096 * C + (786432 * N2 + 5505024 - 65536 * A2) ≤ 1150976 + F
      have g1 : G ≤ 2 := hGj 1 (by omega)
      rcases hC2 with ⟨hq, hc⟩ | ⟨hq, hc⟩ | hc | hc
      · have u1 : G ≤ 2 := hGj 1 hq
        clear hF hGj
        omega
      · have u1 : G ≤ 16 := hGj 4 hq
        clear hF hGj
        omega
      · clear hF hGj
        omega
      · clear hF hGj
        omega
    · show 4096 * C + (720896 * N2 + 5046272 - 32768 * A2) ≤ 1150976 + F
      have g1 : G ≤ 4 := hGj 2 (by omega)
      rcases hC2 with ⟨hq, hc⟩ | ⟨hq, hc⟩ | hc | hc
      · have u1 : G ≤ 2 := hGj 1 hq
        clear hF hGj
        omega
      · have u1 : G ≤ 16 := hGj 4 hq
        clear hF hGj
        omega
      · clear hF hGj
        omega
      · clear hF hGj
        omega
    · show 4096 * C + (655360 * N2 + 4587520 - 16384 * A2) ≤ 1150976 + F
      have g1 : G ≤ 8 := hGj 3 (by omega)
      rcases hC2 with ⟨hq, hc⟩ | ⟨hq, hc⟩ | hc | hc
      · have u1 : G ≤ 2 := hGj 1 hq
        clear hF hGj
        omega
      · have u1 : G ≤ 16 := hGj 4 hq
        clear hF hGj
        omega
      · clear hF hGj
        omega
      · clear hF hGj
        omega
    · show 4096 * C + (589824 * N2 + 4128768 - 8192 * A2) ≤ 1150976 + F
      have g1 : G ≤ 16 := hGj 4 (by omega)
      rcases hC2 with ⟨hq, hc⟩ | ⟨hq, hc⟩ | hc | hc
      · have u1 : G ≤ 2 := hGj 1 hq
        clear hF hGj
        omega
      · have u1 : G ≤ 16 := hGj 4 hq
        clear hF hGj
        omega
      · clear hF hGj
        omega
      · clear hF hGj
        omega
    · show 4096 * C + (524288 * N2 + 3670016 - 4096 * A2) ≤ 1150976 + F
      have g1 : G ≤ 32 := hGj 5 (by omega)
      rcases hC2 with ⟨hq, hc⟩ | ⟨hq, hc⟩ | hc | hc
      · have u1 : G ≤ 2 := hGj 1 hq
        clear hF hGj
        omega
      · have u1 : G ≤ 16 := hGj 4 hq
        clear hF hGj
        omega
      · clear hF hGj
        omega
      · clear hF hGj
        omega
    · show 4096 * C + (458752 * N2 + 3211264 - 2048 * A2) ≤ 1150976 + F
      have g1 : G ≤ 64 := hGj 6 (by omega)
      rcases hC2 with ⟨hq, hc⟩ | ⟨hq, hc⟩ | hc | hc
      · have u1 : G ≤ 2 := hGj 1 hq
        clear hF hGj
        omega
      · have u1 : G ≤ 16 := hGj 4 hq
        clear hF hGj
        omega
      · clear hF hGj
        omega
      · clear hF hGj
        omega
    · show 4096 * C + (393216 * N2 + 2752512 - 1024 * A2) ≤ 1150976 + F
      have g1 : G ≤ 128 := hGj 7 (by omega)
      rcases hC2 with ⟨hq, hc⟩ | ⟨hq, hc⟩ | hc | hc
      · have u1 : G ≤ 2 := hGj 1 hq
        clear hF hGj
        omega
      · have u1 : G ≤ 16 := hGj 4 hq
        clear hF hGj
        omega
      · clear hF hGj
        omega
      · clear hF hGj
        omega
    · show 4096 * C + (327680 * N2 + 2293760 - 512 * A2) ≤ 1150976 + F
      have f8 : 327680 * N + 2293760 - 512 * A ≤ F := hF 8 (by omega) (by decide)
      have g1 : G ≤ 256 := hGj 8 (by omega)
      rcases hC2 with ⟨hq, hc⟩ | ⟨hq, hc⟩ | hc | hc
      · have u1 : G ≤ 2 := hGj 1 hq
        clear hF hGj
        omega
      · have u1 : G ≤ 16 := hGj 4 hq
        clear hF hGj
        omega
      · clear hF hGj
        omega
      · clear hF hGj
        omega
    · show 4096 * C + (262144 * N2 + 1835008 - 256 * A2) ≤ 1150976 + F
      have f9 : 262144 * N + 1835008 - 256 * A ≤ F := hF 9 (by omega) (by decide)
      have f10 : 196608 * N + 1376256 - 128 * A ≤ F := hF 10 (by omega) (by decide)
      have g1 : G ≤ 512 := hGj 9 (by omega)
      rcases hC2 with ⟨hq, hc⟩ | ⟨hq, hc⟩ | hc | hc
      · have u1 : G ≤ 2 := hGj 1 hq
        clear hF hGj
        omega
      · have u1 : G ≤ 16 := hGj 4 hq
        clear hF hGj
        omega
      · clear hF hGj
        omega
      · clear hF hGj
        omega
    · show 4096 * C + (196608 * N2 + 1376256 - 128 * A2) ≤ 1150976 + F
      have f10 : 196608 * N + 1376256 - 128 * A ≤ F := hF 10 (by omega) (by decide)
      have f11 : 131072 * N + 917504 - 64 * A ≤ F := hF 11 (by omega) (by decide)
      have g1 : G ≤ 1024 := hGj 10 (by omega)
      rcases hC2 with ⟨hq, hc⟩ | ⟨hq, hc⟩ | hc | hc
      · have u1 : G ≤ 2 := hGj 1 hq
        clear hF hGj
        omega
      · have u1 : G ≤ 16 := hGj 4 hq
        clear hF hGj
        omega
      · clear hF hGj
        omega
      · clear hF hGj
        omega
    · show 4096 * C + (131072 * N2 + 917504 - 64 * A2) ≤ 1150976 + F
      have f11 : 131072 * N + 917504 - 64 * A ≤ F := hF 11 (by omega) (by decide)
      have g1 : G ≤ 2048 := hGj 11 (by omega)
      rcases hC2 with ⟨hq, hc⟩ | ⟨hq, hc⟩ | hc | hc
      · have u1 : G ≤ 2 := hGj 1 hq
        clear hF hGj
        omega
      · have u1 : G ≤ 16 := hGj 4 hq
        clear hF hGj
        omega
      · clear hF hGj
        omega
      · clear hF hGj
        omega
    · show 4096 * C + (65536 * N2 + 458752 - 32 * A2) ≤ 1150976 + F
      have g1 : G ≤ 4096 := hGj 12 (by omega)
      rcases hC2 with ⟨hq, hc⟩ | ⟨hq, hc⟩ | hc | hc
      · have u1 : G ≤ 2 := hGj 1 hq
        clear hF hGj
        omega
      · have u1 : G ≤ 16 := hGj 4 hq
        clear hF hGj
        omega
      · clear hF hGj
        omega
      · clear hF hGj
        omega
  ·
    have g1 : G ≤ 4096 := hGj 12 (by omega)
    rcases hC2 with ⟨hq, hc⟩ | ⟨hq, hc⟩ | hc | hc
    · have u1 : G ≤ 2 := hGj 1 hq
      clear hF hGj
      omega
    · have u1 : G ≤ 16 := hGj 4 hq
      clear hF hGj
      omega
    · clear hF hGj
      omega
    · clear hF hGj
      omega
theorem qr_x14 {g : Nat} {A N E z C F A2 N2 G : Int} (hF0 : 0 ≤ F) (hF : ∀ i : Nat, g ≤ i → i < 13 → qr_l i A N ≤ F) (hN : 1 ≤ N) (hN1 : N = 1 → 512 ≤ A) (hz : 0 ≤ z) (hE : 0 ≤ E) (h1 : A ≤ N * 16384) (h3 : z * 16384 ≤ 65536) (h4 : z * 16384 ≤ 2 * E) (hC : C ≤ 529) (hm : (A2 = A + E ∧ N2 = N + 1) ∨ (3 ≤ N ∧ A + E - G ≤ 2 * A2 ∧ 2 * N2 ≤ N + 2)) (hg : g ≤ 13) (hG : 1 ≤ G ∧ G ≤ 8192) (hGj : ∀ j : Nat, g ≤ j → G ≤ 2 ^ j) (h2 : N * 8192 < A) (hC2 : (g ≤ 1 ∧ C ≤ 8 * z + 135) ∨ (g ≤ 4 ∧ C ≤ 8 * z + 117) ∨ C ≤ 8 * z + 90 ∨ (g = 0 ∧ G = 1 ∧ 47 ≤ z ∧ C ≤ 8 * z + 153) ∨ (1 ≤ g ∧ 29 ≤ z ∧ C ≤ 8 * z + 144)) : (∀ j : Nat, g ≤ j → j < 13 → 4096 * C + qr_l j A2 N2 ≤ 1150976 + F) ∧ 4096 * C ≤ 1150976 + F := by
  constructor
  · intro j hj1 hj2
    have hjs : j = 0 ∨ j = 1 ∨ j = 2 ∨ j = 3 ∨ j = 4 ∨ j = 5 ∨ j = 6 ∨ j = 7 ∨ j = 8 ∨ j = 9 ∨ j = 10 ∨ j = 11 ∨ j = 12 := by omega
    rcases hjs with rfl | rfl | rfl | rfl | rfl | rfl | rfl | rfl | rfl | rfl | rfl | rfl | rfl
    · show 4096 * C + (851968 * N2 + 5963776 - 131072 * A2) ≤ 1150976 + F
      have g1 : G ≤ 1 := hGj 0 (by omega)
      rcases hC2 with ⟨hq, hc⟩ | ⟨hq, hc⟩ | hc | hc
      · have u1 : G ≤ 2 := hGj 1 hq
        clear hF hGj
        omega
      · have u1 : G ≤ 16 := hGj 4 hq
        clear hF hGj
        omega
      · clear hF hGj
        omega
      · clear hF hGj
        omega
    · show 4096 * C + (786432 * N2 + 5505024 - 65536 * A2) ≤ 1150976 + F
      have g1 : G ≤ 2 := hGj 1 (by omega)
      rcases hC2 with ⟨hq, hc⟩ | ⟨hq, hc⟩ | hc | hc
      · have u1 : G ≤ 2 := hGj 1 hq
        clear hF hGj
        omega
      · have u1 : G ≤ 16 := hGj 4 hq
        clear hF hGj
        omega
      · clear hF hGj
        omega
      · clear hF hGj
        omega
    · show 4096 * C + (720896 * N2 + 5046272 - 32768 * A2) ≤ 1150976 + F
      have g1 : G ≤ 4 := hGj 2 (by omega)
      rcases hC2 with ⟨hq, hc⟩ | ⟨hq, hc⟩ | hc | hc
      · have u1 : G ≤ 2 := hGj 1 hq
        clear hF hGj
        omega
      · have u1 : G ≤ 16 := hGj 4 hq
        clear hF hGj
        omega
      · clear hF hGj
        omega
      · clear hF hGj
        omega
    · show 4096 * C + (655360 * N2 + 4587520 - 16384 * A2) ≤ 1150976 + F
      have g1 : G ≤ 8 := hGj 3 (by omega)
      rcases hC2 with ⟨hq, hc⟩ | ⟨hq, hc⟩ | hc | hc
      · have u1 : G ≤ 2 := hGj 1 hq
        clear hF hGj
        omega
      · have u1 : G ≤ 16 := hGj 4 hq
        clear hF hGj
        omega
      · clear hF hGj
        omega
      · clear hF hGj
        omega
    · show 4096 * C + (589824 * N2 + 4128768 - 8192 * A2) ≤ 1150976 + F
      have g1 : G ≤ 16 := hGj 4 (by omega)
      rcases hC2 with ⟨hq, hc⟩ | ⟨hq, hc⟩ | hc | hc
      · have u1 : G ≤ 2 := hGj 1 hq
        clear hF hGj
        omega
      · have u1 : G ≤ 16 := hGj 4 hq
        clear hF hGj
        omega
      · clear hF hGj
        omega
      · clear hF hGj
        omega
    · show 4096 * C + (524288 * N2 + 3670016 - 4096 * A2) ≤ 1150976 + F
      have g1 : G ≤ 32 := hGj 5 (by omega)
      rcases hC2 with ⟨hq, hc⟩ | ⟨hq, hc⟩ | hc | hc
      · have u1 : G ≤ 2 := hGj 1 hq
        clear hF hGj
        omega
      · have u1 : G ≤ 16 := hGj 4 hq
        clear hF hGj
        omega
      · clear hF hGj
        omega
      · clear hF hGj
        omega
    · show 4096 * C + (458752 * N2 + 3211264 - 2048 * A2) ≤ 1150976 + F
      have g1 : G ≤ 64 := hGj 6 (by omega)
      rcases hC2 with ⟨hq, hc⟩ | ⟨hq, hc⟩ | hc | hc
      · have u1 : G ≤ 2 := hGj 1 hq
        clear hF hGj
        omega
      · have u1 : G ≤ 16 := hGj 4 hq
        clear hF hGj
        omega
      · clear hF hGj
        omega
      · clear hF hGj
        omega
    · show 4096 * C + (393216 * N2 + 2752512 - 1024 * A2) ≤ 1150976 + F
      have g1 : G ≤ 128 := hGj 7 (by omega)
      rcases hC2 with ⟨hq, hc⟩ | ⟨hq, hc⟩ | hc | hc
      · have u1 : G ≤ 2 := hGj 1 hq
        clear hF hGj
        omega
      · have u1 : G ≤ 16 := hGj 4 hq
        clear hF hGj
        omega
      · clear hF hGj
        omega
      · clear hF hGj
        omega
    · show 4096 * C + (327680 * N2 + 2293760 - 512 * A2) ≤ 1150976 + F
      have g1 : G ≤ 256 := hGj 8 (by omega)
      rcases hC2 with ⟨hq, hc⟩ | ⟨hq, hc⟩ | hc | hc
      · have u1 : G ≤ 2 := hGj 1 hq
        clear hF hGj
        omega
      · have u1 : G ≤ 16 := hGj 4 hq
        clear hF hGj
        omega
      · clear hF hGj
        omega
      · clear hF hGj
        omega
    · show 4096 * C + (262144 * N2 + 1835008 - 256 * A2) ≤ 1150976 + F
      have g1 : G ≤ 512 := hGj 9 (by omega)
      rcases hC2 with ⟨hq, hc⟩ | ⟨hq, hc⟩ | hc | hc
      · have u1 : G ≤ 2 := hGj 1 hq
        clear hF hGj
        omega
      · have u1 : G ≤ 16 := hGj 4 hq
        clear hF hGj
        omega
      · clear hF hGj
        omega
      · clear hF hGj
        omega
    · show 4096 * C + (196608 * N2 + 1376256 - 128 * A2) ≤ 1150976 + F
      have f10 : 196608 * N + 1376256 - 128 * A ≤ F := hF 10 (by omega) (by decide)
      have g1 : G ≤ 1024 := hGj 10 (by omega)
      rcases hC2 with ⟨hq, hc⟩ | ⟨hq, hc⟩ | hc | hc
      · have u1 : G ≤ 2 := hGj 1 hq
        clear hF hGj
        omega
      · have u1 : G ≤ 16 := hGj 4 hq
        clear hF hGj
        omega
      · clear hF hGj
        omega
      · clear hF hGj
        omega
    · show 4096 * C + (131072 * N2 + 917504 - 64 * A2) ≤ 1150976 + F
      have f11 : 131072 * N + 917504 - 64 * A ≤ F := hF 11 (by omega) (by decide)
      have g1 : G ≤ 2048 := hGj 11 (by omega)
      rcases hC2 with ⟨hq, hc⟩ | ⟨hq, hc⟩ | hc | hc
      · have u1 : G ≤ 2 := hGj 1 hq
        clear hF hGj
        omega
      · have u1 : G ≤ 16 := hGj 4 hq
        clear hF hGj
        omega
      · clear hF hGj
        omega
      · clear hF hGj
        omega
    · show 4096 * C + (65536 * N2 + 458752 - 32 * A2) ≤ 1150976 + F
      have g1 : G ≤ 4096 := hGj 12 (by omega)
      rcases hC2 with ⟨hq, hc⟩ | ⟨hq, hc⟩ | hc | hc
      · have u1 : G ≤ 2 := hGj 1 hq
        clear hF hGj
        omega
      · have u1 : G ≤ 16 := hGj 4 hq
        clear hF hGj
        omega
      · clear hF hGj
        omega
      · clear hF hGj
        omega
  ·
    have g1 : G ≤ 8192 := hGj 13 (by omega)
    rcases hC2 with ⟨hq, hc⟩ | ⟨hq, hc⟩ | hc | hc
    · have u1 : G ≤ 2 := hGj 1 hq
      clear hF hGj
      omega
    · have u1 : G ≤ 16 := hGj 4 hq
      clear hF hGj
      omega
    · clear hF hGj
      omega
    · clear hF hGj
      omega
theorem qr_x15 {g : Nat} {A N E z C F A2 N2 G : Int} (hF0 : 0 ≤ F) (hF : ∀ i : Nat, g ≤ i → i < 13 → qr_l i A N ≤ F) (hN : 1 ≤ N) (hN1 : N = 1 → 512 ≤ A) (hz : 0 ≤ z) (hE : 0 ≤ E) (h1 : A ≤ N * 32768) (h3 : z * 32768 ≤ 65536) (h4 : z * 32768 ≤ 2 * E) (hC : C ≤ 529) (hm : (A2 = A + E ∧ N2 = N + 1) ∨ (3 ≤ N ∧ A + E - G ≤ 2 * A2 ∧ 2 * N2 ≤ N + 2)) (hg : g ≤ 14) (hG : 1 ≤ G ∧ G ≤ 16384) (hGj : ∀ j : Nat, g ≤ j → G ≤ 2 ^ j) (h2 : N * 16384 < A) (hC2 : (g ≤ 1 ∧ C ≤ 8 * z + 144) ∨ (g ≤ 4 ∧ C ≤ 8 * z + 126) ∨ C ≤ 8 * z + 99 ∨ (g = 0 ∧ G = 1 ∧ 47 ≤ z ∧ C ≤ 8 * z + 153) ∨ (1 ≤ g ∧ 29 ≤ z ∧ C ≤ 8 * z + 144)) : (∀ j : Nat, g ≤ j → j < 13 → 4096 * C + qr_l j A2 N2 ≤ 1150976 + F) ∧ 4096 * C ≤ 1150976 + F := by
  constructor
  · intro j hj1 hj2
    have hjs : j = 0 ∨ j = 1 ∨ j = 2 ∨ j = 3 ∨ j = 4 ∨ j = 5 ∨ j = 6 ∨ j = 7 ∨ j = 8 ∨ j = 9 ∨ j = 10 ∨ j = 11 ∨ j = 12 := by omega
    rcases hjs with rfl | rfl | rfl | rfl | rfl | rfl | rfl | rfl | rfl | rfl | rfl | rfl | rfl
    · show 4096 * C + (851968 * N2 + 5963776 - 131072 * A2) ≤ 1150976 + F
      have g1 : G ≤ 1 := hGj 0 (by omega)
      rcases hC2 with ⟨hq, hc⟩ | ⟨hq, hc⟩ | hc | hc
      · have u1 : G ≤ 2 := hGj 1 hq
        clear hF hGj
        omega
      · have u1 : G ≤ 16 := hGj 4 hq
        clear hF hGj
        omega
      · clear hF hGj
        omega
      · clear hF hGj
        omega
    · show 4096 * C + (786432 * N2 + 5505024 - 65536 * A2) ≤ 1150976 + F
      have g1 : G ≤ 2 := hGj 1 (by omega)
      rcases hC2 with ⟨hq, hc⟩ | ⟨hq, hc⟩ | hc | hc
      · have u1 : G ≤ 2 := hGj 1 hq
        clear hF hGj
        omega
      · have u1 : G ≤ 16 := hGj 4 hq
        clear hF hGj
        omega
      · clear hF hGj
        omega
      · clear hF hGj
        omega
    · show 4096 * C + (720896 * N2 + 5046272 - 32768 * A2) ≤ 1150976 + F
      have g1 : G ≤ 4 := hGj 2 (by omega)
      rcases hC2 with ⟨hq, hc⟩ | ⟨hq, hc⟩ | hc | hc
      · have u1 : G ≤ 2 := hGj 1 hq
        clear hF hGj
        omega
      · have u1 : G ≤ 16 := hGj 4 hq
        clear hF hGj
        omega
      · clear hF hGj
        omega
      · clear hF hGj
        omega
    · show 4096 * C + (655360 * N2 + 4587520 - 16384 * A2) ≤ 1150976 + F
      have g1 : G ≤ 8 := hGj 3 (by omega)
      rcases hC2 with ⟨hq, hc⟩ | ⟨hq, hc⟩ | hc | hc
      · have u1 : G ≤ 2 := hGj 1 hq
        clear hF hGj
        omega
      · have u1 : G ≤ 16 := hGj 4 hq
        clear hF hGj
        omega
      · clear hF hGj
        omega
      · clear hF hGj
        omega
    · show 4096 * C + (589824 * N2 + 4128768 - 8192 * A2) ≤ 1150976 + F
      have g1 : G ≤ 16 := hGj 4 (by omega)
      rcases hC2 with ⟨hq, hc⟩ | ⟨hq, hc⟩ | hc | hc
      · have u1 : G ≤ 2 := hGj 1 hq
        clear hF hGj
        omega
      · have u1 : G ≤ 16 := hGj 4 hq
        clear hF hGj
        omega
      · clear hF hGj
        omega
      · clear hF hGj
        omega
    · show 4096 * C + (524288 * N2 + 3670016 - 4096 * A2) ≤ 1150976 + F
      have g1 : G ≤ 32 := hGj 5 (by omega)
      rcases hC2 with ⟨hq, hc⟩ | ⟨hq, hc⟩ | hc | hc
      · have u1 : G ≤ 2 := hGj 1 hq
        clear hF hGj
        omega
      · have u1 : G ≤ 16 := hGj 4 hq
        clear hF hGj
        omega
      · clear hF hGj
        omega
      · clear hF hGj
        omega
    · show 4096 * C + (458752 * N2 + 3211264 - 2048 * A2) ≤ 1150976 + F
      have g1 : G ≤ 64 := hGj 6 (by omega)
      rcases hC2 with ⟨hq, hc⟩ | ⟨hq, hc⟩ | hc | hc
      · have u1 : G ≤ 2 := hGj 1 hq
        clear hF hGj
        omega
      · have u1 : G ≤ 16 := hGj 4 hq
        clear hF hGj
        omega
      · clear hF hGj
        omega
      · clear hF hGj
        omega
    · show 4096 * C + (393216 * N2 + 2752512 - 1024 * A2) ≤ 1150976 + F
      have g1 : G ≤ 128 := hGj 7 (by omega)
      rcases hC2 with ⟨hq, hc⟩ | ⟨hq, hc⟩ | hc | hc
      · have u1 : G ≤ 2 := hGj 1 hq
        clear hF hGj
        omega
      · have u1 : G ≤ 16 := hGj 4 hq
        clear hF hGj
        omega
      · clear hF hGj
        omega
      · clear hF hGj
        omega
    · show 4096 * C + (327680 * N2 + 2293760 - 512 * A2) ≤ 1150976 + F
      have g1 : G ≤ 256 := hGj 8 (by omega)
      rcases hC2 with ⟨hq, hc⟩ | ⟨hq, hc⟩ | hc | hc
      · have u1 : G ≤ 2 := hGj 1 hq
        clear hF hGj
        omega
      · have u1 : G ≤ 16 := hGj 4 hq
        clear hF hGj
        omega
      · clear hF hGj
        omega
      · clear hF hGj
        omega
    · show 4096 * C + (262144 * N2 + 1835008 - 256 * A2) ≤ 1150976 + F
      have g1 : G ≤ 512 := hGj 9 (by omega)
      rcases hC2 with ⟨hq, hc⟩ | ⟨hq, hc⟩ | hc | hc
      · have u1 : G ≤ 2 := hGj 1 hq
        clear hF hGj
        omega
      · have u1 : G ≤ 16 := hGj 4 hq
        clear hF hGj
        omega
      · clear hF hGj
        omega
      · clear hF hGj
        omega
    · show 4096 * C + (196608 * N2 + 1376256 - 128 * A2) ≤ 1150976 + F
      have g1 : G ≤ 1024 := hGj 10 (by omega)
      rcases hC2 with ⟨hq, hc⟩ | ⟨hq, hc⟩ | hc | hc
      · have u1 : G ≤ 2 := hGj 1 hq
        clear hF hGj
        omega
      · have u1 : G ≤ 16 := hGj 4 hq
        clear hF hGj
        omega
      · clear hF hGj
        omega
      · clear hF hGj
        omega
    · show 4096 * C + (131072 * N2 + 917504 - 64 * A2) ≤ 1150976 + F
      have g1 : G ≤ 2048 := hGj 11 (by omega)
      rcases hC2 with ⟨hq, hc⟩ | ⟨hq, hc⟩ | hc | hc
      · have u1 : G ≤ 2 := hGj 1 hq
        clear hF hGj
        omega
      · have u1 : G ≤ 16 := hGj 4 hq
        clear hF hGj
        omega
      · clear hF hGj
        omega
      · clear hF hGj
        omega
    · show 4096 * C + (65536 * N2 + 458752 - 32 * A2) ≤ 1150976 + F
      have g1 : G ≤ 4096 := hGj 12 (by omega)
      rcases hC2 with ⟨hq, hc⟩ | ⟨hq, hc⟩ | hc | hc
      · have u1 : G ≤ 2 := hGj 1 hq
        clear hF hGj
        omega
      · have u1 : G ≤ 16 := hGj 4 hq
        clear hF hGj
        omega
      · clear hF hGj
        omega
      · clear hF hGj
        omega
  ·
    have g1 : G ≤ 16384 := hGj 14 (by omega)
    rcases hC2 with ⟨hq, hc⟩ | ⟨hq, hc⟩ | hc | hc
    · have u1 : G ≤ 2 := hGj 1 hq
      clear hF hGj
      omega
    · have u1 : G ≤ 16 := hGj 4 hq
      clear hF hGj
      omega
    · clear hF hGj
      omega
    · clear hF hGj
      omega
theorem qr_x16 {g : Nat} {A N E z C F A2 N2 G : Int} (hF0 : 0 ≤ F) (hF : ∀ i : Nat, g ≤ i → i < 13 → qr_l i A N ≤ F) (hN : 1 ≤ N) (hN1 : N = 1 → 512 ≤ A) (hz : 0 ≤ z) (hE : 0 ≤ E) (h1 : A ≤ N * 65536) (h3 : z * 65536 ≤ 65536) (h4 : z * 65536 ≤ 2 * E) (hC : C ≤ 529) (hm : (A2 = A + E ∧ N2 = N + 1) ∨ (3 ≤ N ∧ A + E - G ≤ 2 * A2 ∧ 2 * N2 ≤ N + 2)) (hg : g ≤ 15) (hG : 1 ≤ G ∧ G ≤ 32768) (hGj : ∀ j : Nat, g ≤ j → G ≤ 2 ^ j) (h2 : N * 32768 < A) (hC2 : (g ≤ 1 ∧ C ≤ 8 * z + 153) ∨ (g ≤ 4 ∧ C ≤ 8 * z + 135) ∨ C ≤ 8 * z + 108 ∨ (g = 0 ∧ G = 1 ∧ 47 ≤ z ∧ C ≤ 8 * z + 153) ∨ (1 ≤ g ∧ 29 ≤ z ∧ C ≤ 8 * z + 144)) : (∀ j : Nat, g ≤ j → j < 13 → 4096 * C + qr_l j A2 N2 ≤ 1150976 + F) ∧ 4096 * C ≤ 1150976 + F := by
  constructor
  · intro j hj1 hj2
    have hjs : j = 0 ∨ j = 1 ∨ j = 2 ∨ j = 3 ∨ j = 4 ∨ j = 5 ∨ j = 6 ∨ j = 7 ∨ j = 8 ∨ j = 9 ∨ j = 10 ∨ j = 11 ∨ j = 12 := by omega
    rcases hjs with rfl | rfl | rfl | rfl | rfl | rfl | rfl | rfl | rfl | rfl | rfl | rfl | rfl
    · show 4096 * C + (851968 * N2 + 5963776 - 131072 * A2) ≤ 1150976 + F
      have g1 : G ≤ 1 := hGj 0 (by omega)
      rcases hC2 with ⟨hq, hc⟩ | ⟨hq, hc⟩ | hc | hc
      · have u1 : G ≤ 2 := hGj 1 hq
        clear hF hGj
        omega
      · have u1 : G ≤ 16 := hGj 4 hq
        clear hF hGj
        omega
      · clear hF hGj
        omega
      · clear hF hGj
        omega
    · show 4096 * C + (786432 * N2 + 5505024 - 65536 * A2) ≤ 1150976 + F
      have g1 : G ≤ 2 := hGj 1 (by omega)
      rcases hC2 with ⟨hq, hc⟩ | ⟨hq, hc⟩ | hc | hc
      · have u1 : G ≤ 2 := hGj 1 hq
        clear hF hGj
        omega
      · have u1 : G ≤ 16 := hGj 4 hq
        clear hF hGj
        omega
      · clear hF hGj
        omega
      · clear hF hGj
        omega
    · show 4096 * C + (720896 * N2 + 5046272 - 32768 * A2) ≤ 1150976 + F
      have g1 : G ≤ 4 := hGj 2 (by omega)
      rcases hC2 with ⟨hq, hc⟩ | ⟨hq, hc⟩ | hc | hc
      · have u1 : G ≤ 2 := hGj 1 hq
        clear hF hGj
        omega
      · have u1 : G ≤ 16 := hGj 4 hq
        clear hF hGj
        omega
      · clear hF hGj
        omega
      · clear hF hGj
        omega
    · show 4096 * C + (655360 * N2 + 4587520 - 16384 * A2) ≤ 1150976 + F
      have g1 : G ≤ 8 := hGj 3 (by omega)
      rcases hC2 with ⟨hq, hc⟩ | ⟨hq, hc⟩ | hc | hc
      · have u1 : G ≤ 2 := hGj 1 hq
        clear hF hGj
        omega
      · have u1 : G ≤ 16 := hGj 4 hq
        clear hF hGj
        omega
      · clear hF hGj
        omega
      · clear hF hGj
        omega
    · show 4096 * C + (589824 * N2 + 4128768 - 8192 * A2) ≤ 1150976 + F
      have g1 : G ≤ 16 := hGj 4 (by omega)
      rcases hC2 with ⟨hq, hc⟩ | ⟨hq, hc⟩ | hc | hc
      · have u1 : G ≤ 2 := hGj 1 hq
        clear hF hGj
        omega
      · have u1 : G ≤ 16 := hGj 4 hq
        clear hF hGj
        omega
      · clear hF hGj
        omega
      · clear hF hGj
        omega
    · show 4096 * C + (524288 * N2 + 3670016 - 4096 * A2) ≤ 1150976 + F
      have g1 : G ≤ 32 := hGj 5 (by omega)
      rcases hC2 with ⟨hq, hc⟩ | ⟨hq, hc⟩ | hc | hc
      · have u1 : G ≤ 2 := hGj 1 hq
        clear hF hGj
        omega
      · have u1 : G ≤ 16 := hGj 4 hq
        clear hF hGj
        omega
      · clear hF hGj
        omega
      · clear hF hGj
        omega
    · show 4096 * C + (458752 * N2 + 3211264 - 2048 * A2) ≤ 1150976 + F
      have g1 : G ≤ 64 := hGj 6 (by omega)
      rcases hC2 with ⟨hq, hc⟩ | ⟨hq, hc⟩ | hc | hc
      · have u1 : G ≤ 2 := hGj 1 hq
        clear hF hGj
        omega
      · have u1 : G ≤ 16 := hGj 4 hq
        clear hF hGj
        omega
      · clear hF hGj
        omega
      · clear hF hGj
        omega
    · show 4096 * C + (393216 * N2 + 2752512 - 1024 * A2) ≤ 1150976 + F
      have g1 : G ≤ 128 := hGj 7 (by omega)
      rcases hC2 with ⟨hq, hc⟩ | ⟨hq, hc⟩ | hc | hc
      · have u1 : G ≤ 2 := hGj 1 hq
        clear hF hGj
        omega
      · have u1 : G ≤ 16 := hGj 4 hq
        clear hF hGj
        omega
      · clear hF hGj
        omega
      · clear hF hGj
        omega
    · show 4096 * C + (327680 * N2 + 2293760 - 512 * A2) ≤ 1150976 + F
      have g1 : G ≤ 256 := hGj 8 (by omega)
      rcases hC2 with ⟨hq, hc⟩ | ⟨hq, hc⟩ | hc | hc
      · have u1 : G ≤ 2 := hGj 1 hq
        clear hF hGj
        omega
      · have u1 : G ≤ 16 := hGj 4 hq
        clear hF hGj
        omega
      · clear hF hGj
        omega
      · clear hF hGj
        omega
    · show 4096 * C + (262144 * N2 + 1835008 - 256 * A2) ≤ 1150976 + F
      have g1 : G ≤ 512 := hGj 9 (by omega)
      rcases hC2 with ⟨hq, hc⟩ | ⟨hq, hc⟩ | hc | hc
      · have u1 : G ≤ 2 := hGj 1 hq
        clear hF hGj
        omega
      · have u1 : G ≤ 16 := hGj 4 hq
        clear hF hGj
        omega
      · clear hF hGj
        omega
      · clear hF hGj
        omega
    · show 4096 * C + (196608 * N2 + 1376256 - 128 * A2) ≤ 1150976 + F
      have g1 : G ≤ 1024 := hGj 10 (by omega)
      rcases hC2 with ⟨hq, hc⟩ | ⟨hq, hc⟩ | hc | hc
      · have u1 : G ≤ 2 := hGj 1 hq
        clear hF hGj
        omega
      · have u1 : G ≤ 16 := hGj 4 hq
        clear hF hGj
        omega
      · clear hF hGj
        omega
      · clear hF hGj
        omega
    · show 4096 * C + (131072 * N2 + 917504 - 64 * A2) ≤ 1150976 + F
      have g1 : G ≤ 2048 := hGj 11 (by omega)
      rcases hC2 with ⟨hq, hc⟩ | ⟨hq, hc⟩ | hc | hc
      · have u1 : G ≤ 2 := hGj 1 hq
        clear hF hGj
        omega
      · have u1 : G ≤ 16 := hGj 4 hq
        clear hF hGj
        omega
      · clear hF hGj
        omega
      · clear hF hGj
        omega
    · show 4096 * C + (65536 * N2 + 458752 - 32 * A2) ≤ 1150976 + F
      have g1 : G ≤ 4096 := hGj 12 (by omega)
      rcases hC2 with ⟨hq, hc⟩ | ⟨hq, hc⟩ | hc | hc
      · have u1 : G ≤ 2 := hGj 1 hq
        clear hF hGj
        omega
      · have u1 : G ≤ 16 := hGj 4 hq
        clear hF hGj
        omega
      · clear hF hGj
        omega
      · clear hF hGj
        omega
  ·
    have g1 : G ≤ 32768 := hGj 15 (by omega)
    rcases hC2 with ⟨hq, hc⟩ | ⟨hq, hc⟩ | hc | hc
    · have u1 : G ≤ 2 := hGj 1 hq
      clear hF hGj
      omega
    · have u1 : G ≤ 16 := hGj 4 hq
      clear hF hGj
      omega
    · clear hF hGj
      omega
    · clear hF hGj
      omega
theorem qr_z0 {g : Nat} {A N E z C F A2 N2 G : Int} (hF0 : 0 ≤ F) (hF : ∀ i : Nat, g ≤ i → i < 13 → qr_l i A N ≤ F) (hN : 1 ≤ N) (hN1 : N = 1 → 512 ≤ A) (hz : 0 ≤ z) (hE : 0 ≤ E) (h1 : A ≤ N * 1) (h3 : z * 1 ≤ 65536) (h4 : z * 1 ≤ 2 * E + G) (hC : C ≤ 529) (hm : (A2 = A + E ∧ N2 = N + 1) ∨ (3 ≤ N ∧ A + E - G ≤ 2 * A2 ∧ 2 * N2 ≤ N + 2)) (hg : g = 0) (hG : G = 1) (hC2 : C ≤ 8 * z + 9 ∨ (g = 0 ∧ G = 1 ∧ 47 ≤ z ∧ C ≤ 8 * z + 153) ∨ (1 ≤ g ∧ 29 ≤ z ∧ C ≤ 8 * z + 144)) : (∀ j : Nat, g ≤ j → j < 13 → 4096 * C + qr_l j A2 N2 ≤ 1150976 + F) ∧ 4096 * C ≤ 1150976 + F := by
  constructor
  · intro j hj1 hj2
    have hjs : j = 0 ∨ j = 1 ∨ j = 2 ∨ j = 3 ∨ j = 4 ∨ j = 5 ∨ j = 6 ∨ j = 7 ∨ j = 8 ∨ j = 9 ∨ j = 10 ∨ j = 11 ∨ j = 12 := by omega
    rcases hjs with rfl | rfl | rfl | rfl | rfl | rfl | rfl | rfl | rfl | rfl | rfl | rfl | rfl
    · show 4096 * C + (851968 * N2 + 5963776 - 131072 * A2) ≤ 1150976 + F
      have f0 : 851968 * N + 5963776 - 131072 * A ≤ F := hF 0 (by omega) (by decide)
      clear hF
      omega
    · show 4096 * C + (786432 * N2 + 5505024 - 65536 * A2) ≤ 1150976 + F
      have f0 : 851968 * N + 5963776 - 131072 * A ≤ F := hF 0 (by omega) (by decide)
      have f1 : 786432 * N + 5505024 - 65536 * A ≤ F := hF 1 (by omega) (by decide)
      clear hF
      omega
    · show 4096 * C + (720896 * N2 + 5046272 - 32768 * A2) ≤ 1150976 + F
      have f0 : 851968 * N + 5963776 - 131072 * A ≤ F := hF 0 (by omega) (by decide)
      have f1 : 786432 * N + 5505024 - 65536 * A ≤ F := hF 1 (by omega) (by decide)
      clear hF
      omega
    · show 4096 * C + (655360 * N2 + 4587520 - 16384 * A2) ≤ 1150976 + F
      have f0 : 851968 * N + 5963776 - 131072 * A ≤ F := hF 0 (by omega) (by decide)
      have f2 : 720896 * N + 5046272 - 32768 * A ≤ F := hF 2 (by omega) (by decide)
      clear hF
      omega
    · show 4096 * C + (589824 * N2 + 4128768 - 8192 * A2) ≤ 1150976 + F
      have f1 : 786432 * N + 5505024 - 65536 * A ≤ F := hF 1 (by omega) (by decide)
      have f2 : 720896 * N + 5046272 - 32768 * A ≤ F := hF 2 (by omega) (by decide)
      have f3 : 655360 * N + 4587520 - 16384 * A ≤ F := hF 3 (by omega) (by decide)
      clear hF
      omega
    · show 4096 * C + (524288 * N2 + 3670016 - 4096 * A2) ≤ 1150976 + F
      have f2 : 720896 * N + 5046272 - 32768 * A ≤ F := hF 2 (by omega) (by decide)
      have f3 : 655360 * N + 4587520 - 16384 * A ≤ F := hF 3 (by omega) (by decide)
      clear hF
      omega
    · show 4096 * C + (458752 * N2 + 3211264 - 2048 * A2) ≤ 1150976 + F
      have f3 : 655360 * N + 4587520 - 16384 * A ≤ F := hF 3 (by omega) (by decide)
      have f4 : 589824 * N + 4128768 - 8192 * A ≤ F := hF 4 (by omega) (by decide)
      clear hF
      omega
    · show 4096 * C + (393216 * N2 + 2752512 - 1024 * A2) ≤ 1150976 + F
      have f4 : 589824 * N + 4128768 - 8192 * A ≤ F := hF 4 (by omega) (by decide)
      have f5 : 524288 * N + 3670016 - 4096 * A ≤ F := hF 5 (by omega) (by decide)
      clear hF
      omega
    · show 4096 * C + (327680 * N2 + 2293760 - 512 * A2) ≤ 1150976 + F
      have f5 : 524288 * N + 3670016 - 4096 * A ≤ F := hF 5 (by omega) (by decide)
      have f6 : 458752 * N + 3211264 - 2048 * A ≤ F := hF 6 (by omega) (by decide)
      clear hF
      omega
    · show 4096 * C + (262144 * N2 + 1835008 - 256 * A2) ≤ 1150976 + F
      have f6 : 458752 * N + 3211264 - 2048 * A ≤ F := hF 6 (by omega) (by decide)
      have f7 : 393216 * N + 2752512 - 1024 * A ≤ F := hF 7 (by omega) (by decide)
      clear hF
      omega
    · show 4096 * C + (196608 * N2 + 1376256 - 128 * A2) ≤ 1150976 + F
      have f7 : 393216 * N + 2752512 - 1024 * A ≤ F := hF 7 (by omega) (by decide)
      have f8 : 327680 * N + 2293760 - 512 * A ≤ F := hF 8 (by omega) (by decide)
      clear hF
      omega
    · show 4096 * C + (131072 * N2 + 917504 - 64 * A2) ≤ 1150976 + F
      have f9 : 262144 * N + 1835008 - 256 * A ≤ F := hF 9 (by omega) (by decide)
      clear hF
      omega
    · show 4096 * C + (65536 * N2 + 458752 - 32 * A2) ≤ 1150976 + F
      have f10 : 196608 * N + 1376256 - 128 * A ≤ F := hF 10 (by omega) (by decide)
      clear hF
      omega
  ·
    have f0 : 851968 * N + 5963776 - 131072 * A ≤ F := hF 0 (by omega) (by decide)
    clear hF
    omega
theorem qr_z1 {g : Nat} {A N E z C F A2 N2 G : Int} (hF0 : 0 ≤ F) (hF : ∀ i : Nat, g ≤ i → i < 13 → qr_l i A N ≤ F) (hN : 1 ≤ N) (hN1 : N = 1 → 512 ≤ A) (hz : 0 ≤ z) (hE : 0 ≤ E) (h1 : A ≤ N * 2) (h3 : z * 2 ≤ 65536) (h4 : z * 2 ≤ 2 * E + G) (hC : C ≤ 529) (hm : (A2 = A + E ∧ N2 = N + 1) ∨ (3 ≤ N ∧ A + E - G ≤ 2 * A2 ∧ 2 * N2 ≤ N + 2)) (hg : g = 1) (hG : G = 2) (hC2 : C ≤ 8 * z + 9 ∨ (g = 0 ∧ G = 1 ∧ 47 ≤ z ∧ C ≤ 8 * z + 153) ∨ (1 ≤ g ∧ 29 ≤ z ∧ C ≤ 8 * z + 144)) : (∀ j : Nat, g ≤ j → j < 13 → 4096 * C + qr_l j A2 N2 ≤ 1150976 + F) ∧ 4096 * C ≤ 1150976 + F := by
  constructor
  · intro j hj1 hj2
    have hjs : j = 0 ∨ j = 1 ∨ j = 2 ∨ j = 3 ∨ j = 4 ∨ j = 5 ∨ j = 6 ∨ j = 7 ∨ j = 8 ∨ j = 9 ∨ j = 10 ∨ j = 11 ∨ j = 12 := by omega
    rcases hjs with rfl | rfl | rfl | rfl | rfl | rfl | rfl | rfl | rfl | rfl | rfl | rfl | rfl
    · exact absurd hj1 (by omega)
    · show 4096 * C + (786432 * N2 + 5505024 - 65536 * A2) ≤ 1150976 + F
      have f1 : 786432 * N + 5505024 - 65536 * A ≤ F := hF 1 (by omega) (by decide)
      clear hF
      omega
    · show 4096 * C + (720896 * N2 + 5046272 - 32768 * A2) ≤ 1150976 + F
      have f1 : 786432 * N + 5505024 - 65536 * A ≤ F := hF 1 (by omega) (by decide)
      have f2 : 720896 * N + 5046272 - 32768 * A ≤ F := hF 2 (by omega) (by decide)
      clear hF
      omega
    · show 4096 * C + (655360 * N2 + 4587520 - 16384 * A2) ≤ 1150976 + F
      have f1 : 786432 * N + 5505024 - 65536 * A ≤ F := hF 1 (by omega) (by decide)
      have f2 : 720896 * N + 5046272 - 32768 * A ≤ F := hF 2 (by omega) (by decide)
      clear hF
      omega
    · show 4096 * C + (589824 * N2 + 4128768 - 8192 * A2) ≤ 1150976 + F
      have f1 : 786432 * N + 5505024 - 65536 * A ≤ F := hF 1 (by omega) (by decide)
      have f2 : 720896 * N + 5046272 - 32768 * A ≤ F := hF 2 (by omega) (by decide)
      have f3 : 655360 * N + 4587520 - 16384 * A ≤ F := hF 3 (by omega) (by decide)
      clear hF
      omega
    · show 4096 * C + (524288 * N2 + 3670016 - 4096 * A2) ≤ 1150976 + F
      have f2 : 720896 * N + 5046272 - 32768 * A ≤ F := hF 2 (by omega) (by decide)
      have f3 : 655360 * N + 4587520 - 16384 * A ≤ F := hF 3 (by omega) (by decide)
      clear hF
      omega
    · show 4096 * C + (458752 * N2 + 3211264 - 2048 * A2) ≤ 1150976 + F
      have f3 : 655360 * N + 4587520 - 16384 * A ≤ F := hF 3 (by omega) (by decide)
      have f4 : 589824 * N + 4128768 - 8192 * A ≤ F := hF 4 (by omega) (by decide)
      clear hF
      omega
    · show 4096 * C + (393216 * N2 + 2752512 - 1024 * A2) ≤ 1150976 + F
      have f4 : 589824 * N + 4128768 - 8192 * A ≤ F := hF 4 (by omega) (by decide)
      have f5 : 524288 * N + 3670016 - 4096 * A ≤ F := hF 5 (by omega) (by decide)
      clear hF
      omega
    · show 4096 * C + (327680 * N2 + 2293760 - 512 * A2) ≤ 1150976 + F
      have f5 : 524288 * N + 3670016 - 4096 * A ≤ F := hF 5 (by omega) (by decide)
      have f6 : 458752 * N + 3211264 - 2048 * A ≤ F := hF 6 (by omega) (by decide)
      clear hF
      omega
    · show 4096 * C + (262144 * N2 + 1835008 - 256 * A2) ≤ 1150976 + F
      have f6 : 458752 * N + 3211264 - 2048 * A ≤ F := hF 6 (by omega) (by decide)
      have f7 : 393216 * N + 2752512 - 1024 * A ≤ F := hF 7 (by omega) (by decide)
      clear hF
      omega
    · show 4096 * C + (196608 * N2 + 1376256 - 128 * A2) ≤ 1150976 + F
      have f7 : 393216 * N + 2752512 - 1024 * A ≤ F := hF 7 (by omega) (by decide)
      have f8 : 327680 * N + 2293760 - 512 * A ≤ F := hF 8 (by omega) (by decide)
      clear hF
      omega
    · show 4096 * C + (131072 * N2 + 917504 - 64 * A2) ≤ 1150976 + F
      have f9 : 262144 * N + 1835008 - 256 * A ≤ F := hF 9 (by omega) (by decide)
      clear hF
      omega
    · show 4096 * C + (65536 * N2 + 458752 - 32 * A2) ≤ 1150976 + F
      have f10 : 196608 * N + 1376256 - 128 * A ≤ F := hF 10 (by omega) (by decide)
      clear hF
      omega
  ·
    have f1 : 786432 * N + 5505024 - 65536 * A ≤ F := hF 1 (by omega) (by decide)
    clear hF
    omega
theorem qr_z2 {g : Nat} {A N E z C F A2 N2 G : Int} (hF0 : 0 ≤ F) (hF : ∀ i : Nat, g ≤ i → i < 13 → qr_l i A N ≤ F) (hN : 1 ≤ N) (hN1 : N = 1 → 512 ≤ A) (hz : 0 ≤ z) (hE : 0 ≤ E) (h1 : A ≤ N * 4) (h3 : z * 4 ≤ 65536) (h4 : z * 4 ≤ 2 * E + G) (hC : C ≤ 529) (hm : (A2 = A + E ∧ N2 = N + 1) ∨ (3 ≤ N ∧ A + E - G ≤ 2 * A2 ∧ 2 * N2 ≤ N + 2)) (hg : g = 2) (hG : G = 4) (hC2 : C ≤ 8 * z + 9 ∨ (g = 0 ∧ G = 1 ∧ 47 ≤ z ∧ C ≤ 8 * z + 153) ∨ (1 ≤ g ∧ 29 ≤ z ∧ C ≤ 8 * z + 144)) : (∀ j : Nat, g ≤ j → j < 13 → 4096 * C + qr_l j A2 N2 ≤ 1150976 + F) ∧ 4096 * C ≤ 1150976 + F := by
  constructor
  · intro j hj1 hj2
    have hjs : j = 0 ∨ j = 1 ∨ j = 2 ∨ j = 3 ∨ j = 4 ∨ j = 5 ∨ j = 6 ∨ j = 7 ∨ j = 8 ∨ j = 9 ∨ j = 10 ∨ j = 11 ∨ j = 12 := by omega
    rcases hjs with rfl | rfl | rfl | rfl | rfl | rfl | rfl | rfl | rfl | rfl | rfl | rfl | rfl
    · exact absurd hj1 (by omega)
    · exact absurd hj1 (by omega)
    · show 4096 * C + (720896 * N2 + 5046272 - 32768 * A2) ≤ 1150976 + F
      have f2 : 720896 * N + 5046272 - 32768 * A ≤ F := hF 2 (by omega) (by decide)
      clear hF
      omega
    · show 4096 * C + (655360 * N2 + 4587520 - 16384 * A2) ≤ 1150976 + F
      have f2 : 720896 * N + 5046272 - 32768 * A ≤ F := hF 2 (by omega) (by decide)
      have f3 : 655360 * N + 4587520 - 16384 * A ≤ F := hF 3 (by omega) (by decide)
      clear hF
      omega
    · show 4096 * C + (589824 * N2 + 4128768 - 8192 * A2) ≤ 1150976 + F
      have f2 : 720896 * N + 5046272 - 32768 * A ≤ F := hF 2 (by omega) (by decide)
      have f3 : 655360 * N + 4587520 - 16384 * A ≤ F := hF 3 (by omega) (by decide)
      clear hF
      omega
    · show 4096 * C + (524288 * N2 + 3670016 - 4096 * A2) ≤ 1150976 + F
      have f2 : 720896 * N + 5046272 - 32768 * A ≤ F := hF 2 (by omega) (by decide)
      have f3 : 655360 * N + 4587520 - 16384 * A ≤ F := hF 3 (by omega) (by decide)
      have f4 : 589824 * N + 4128768 - 8192 * A ≤ F := hF 4 (by omega) (by decide)
      clear hF
      omega
    · show 4096 * C + (458752 * N2 + 3211264 - 2048 * A2) ≤ 1150976 + F
      have f3 : 655360 * N + 4587520 - 16384 * A ≤ F := hF 3 (by omega) (by decide)
      have f4 : 589824 * N + 4128768 - 8192 * A ≤ F := hF 4 (by omega) (by decide)
      clear hF
      omega
    · show 4096 * C + (393216 * N2 + 2752512 - 1024 * A2) ≤ 1150976 + F
      have f4 : 589824 * N + 4128768 - 8192 * A ≤ F := hF 4 (by omega) (by decide)
      have f5 : 524288 * N + 3670016 - 4096 * A ≤ F := hF 5 (by omega) (by decide)
      clear hF
      omega
    · show 4096 * C + (327680 * N2 + 2293760 - 512 * A2) ≤ 1150976 + F
      have f5 : 524288 * N + 3670016 - 4096 * A ≤ F := hF 5 (by omega) (by decide)
      have f6 : 458752 * N + 3211264 - 2048 * A ≤ F := hF 6 (by omega) (by decide)
      clear hF
      omega
    · show 4096 * C + (262144 * N2 + 1835008 - 256 * A2) ≤ 1150976 + F
      have f6 : 458752 * N + 3211264 - 2048 * A ≤ F := hF 6 (by omega) (by decide)
      have f7 : 393216 * N + 2752512 - 1024 * A ≤ F := hF 7 (by omega) (by decide)
      clear hF
      omega
    · show 4096 * C + (196608 * N2 + 1376256 - 128 * A2) ≤ 1150976 + F
      have f7 : 393216 * N + 2752512 - 1024 * A ≤ F := hF 7 (by omega) (by decide)
      have f8 : 327680 * N + 2293760 - 512 * A ≤ F := hF 8 (by omega) (by decide)
      clear hF
      omega
    · show 4096 * C + (131072 * N2 + 917504 - 64 * A2) ≤ 1150976 + F
      have f9 : 262144 * N + 1835008 - 256 * A ≤ F := hF 9 (by omega) (by decide)
      clear hF
      omega
    · show 4096 * C + (65536 * N2 + 458752 - 32 * A2) ≤ 1150976 + F
      have f10 : 196608 * N + 1376256 - 128 * A ≤ F := hF 10 (by omega) (by decide)
      clear hF
      omega
  ·
    have f2 : 720896 * N + 5046272 - 32768 * A ≤ F := hF 2 (by omega) (by decide)
    clear hF
    omega
theorem qr_z3 {g : Nat} {A N E z C F A2 N2 G : Int} (hF0 : 0 ≤ F) (hF : ∀ i : Nat, g ≤ i → i < 13 → qr_l i A N ≤ F) (hN : 1 ≤ N) (hN1 : N = 1 → 512 ≤ A) (hz : 0 ≤ z) (hE : 0 ≤ E) (h1 : A ≤ N * 8) (h3 : z * 8 ≤ 65536) (h4 : z * 8 ≤ 2 * E + G) (hC : C ≤ 529) (hm : (A2 = A + E ∧ N2 = N + 1) ∨ (3 ≤ N ∧ A + E - G ≤ 2 * A2 ∧ 2 * N2 ≤ N + 2)) (hg : g = 3) (hG : G = 8) (hC2 : C ≤ 8 * z + 9 ∨ (g = 0 ∧ G = 1 ∧ 47 ≤ z ∧ C ≤ 8 * z + 153) ∨ (1 ≤ g ∧ 29 ≤ z ∧ C ≤ 8 * z + 144)) : (∀ j : Nat, g ≤ j → j < 13 → 4096 * C + qr_l j A2 N2 ≤ 1150976 + F) ∧ 4096 * C ≤ 1150976 + F := by
  constructor
  · intro j hj1 hj2
    have hjs : j = 0 ∨ j = 1 ∨ j = 2 ∨ j = 3 ∨ j = 4 ∨ j = 5 ∨ j = 6 ∨ j = 7 ∨ j = 8 ∨ j = 9 ∨ j = 10 ∨ j = 11 ∨ j = 12 := by omega
    rcases hjs with rfl | rfl | rfl | rfl | rfl | rfl | rfl | rfl | rfl | rfl | rfl | rfl | rfl
    · exact absurd hj1 (by omega)
    · exact absurd hj1 (by omega)
    · exact absurd hj1 (by omega)
    · show 4096 * C + (655360 * N2 + 4587520 - 16384 * A2) ≤ 1150976 + F
      have f3 : 655360 * N + 4587520 - 16384 * A ≤ F := hF 3 (by omega) (by decide)
      clear hF
      omega
    · show 4096 * C + (589824 * N2 + 4128768 - 8192 * A2) ≤ 1150976 + F
      have f3 : 655360 * N + 4587520 - 16384 * A ≤ F := hF 3 (by omega) (by decide)
      have f4 : 589824 * N + 4128768 - 8192 * A ≤ F := hF 4 (by omega) (by decide)
      clear hF
      omega
    · show 4096 * C + (524288 * N2 + 3670016 - 4096 * A2) ≤ 1150976 + F
      have f3 : 655360 * N + 4587520 - 16384 * A ≤ F := hF 3 (by omega) (by decide)
      have f4 : 589824 * N + 4128768 - 8192 * A ≤ F := hF 4 (by omega) (by decide)
      clear hF
      omega
    · show 4096 * C + (458752 * N2 + 3211264 - 2048 * A2) ≤ 1150976 + F
      have f3 : 655360 * N + 4587520 - 16384 * A ≤ F := hF 3 (by omega) (by decide)
      have f4 : 589824 * N + 4128768 - 8192 * A ≤ F := hF 4 (by omega) (by decide)
      have f5 : 524288 * N + 3670016 - 4096 * A ≤ F := hF 5 (by omega) (by decide)
      clear hF
      omega
    · show 4096 * C + (393216 * N2 + 2752512 - 1024 * A2) ≤ 1150976 + F
      have f4 : 589824 * N + 4128768 - 8192 * A ≤ F := hF 4 (by omega) (by decide)
      have f5 : 524288 * N + 3670016 - 4096 * A ≤ F := hF 5 (by omega) (by decide)
      clear hF
      omega
    · show 4096 * C + (327680 * N2 + 2293760 - 512 * A2) ≤ 1150976 + F
      have f5 : 524288 * N + 3670016 - 4096 * A ≤ F := hF 5 (by omega) (by decide)
      have f6 : 458752 * N + 3211264 - 2048 * A ≤ F := hF 6 (by omega) (by decide)
      clear hF
      omega
    · show 4096 * C + (262144 * N2 + 1835008 - 256 * A2) ≤ 1150976 + F
      have f6 : 458752 * N + 3211264 - 2048 * A ≤ F := hF 6 (by omega) (by decide)
      have f7 : 393216 * N + 2752512 - 1024 * A ≤ F := hF 7 (by omega) (by decide)
      clear hF
      omega
    · show 4096 * C + (196608 * N2 + 1376256 - 128 * A2) ≤ 1150976 + F
      have f7 : 393216 * N + 2752512 - 1024 * A ≤ F := hF 7 (by omega) (by decide)
      have f8 : 327680 * N + 2293760 - 512 * A ≤ F := hF 8 (by omega) (by decide)
      clear hF
      omega
    · show 4096 * C + (131072 * N2 + 917504 - 64 * A2) ≤ 1150976 + F
      have f9 : 262144 * N + 1835008 - 256 * A ≤ F := hF 9 (by omega) (by decide)
      clear hF
      omega
    · show 4096 * C + (65536 * N2 + 458752 - 32 * A2) ≤ 1150976 + F
      have f10 : 196608 * N + 1376256 - 128 * A ≤ F := hF 10 (by omega) (by decide)
      clear hF
      omega
  ·
    have f3 : 655360 * N + 4587520 - 16384 * A ≤ F := hF 3 (by omega) (by decide)
    clear hF
    omega
theorem qr_z4 {g : Nat} {A N E z C F A2 N2 G : Int} (hF0 : 0 ≤ F) (hF : ∀ i : Nat, g ≤ i → i < 13 → qr_l i A N ≤ F) (hN : 1 ≤ N) (hN1 : N = 1 → 512 ≤ A) (hz : 0 ≤ z) (hE : 0 ≤ E) (h1 : A ≤ N * 16) (h3 : z * 16 ≤ 65536) (h4 : z * 16 ≤ 2 * E + G) (hC : C ≤ 529) (hm : (A2 = A + E ∧ N2 = N + 1) ∨ (3 ≤ N ∧ A + E - G ≤ 2 * A2 ∧ 2 * N2 ≤ N + 2)) (hg : g = 4) (hG : G = 16) (hC2 : C ≤ 8 * z + 9 ∨ (g = 0 ∧ G = 1 ∧ 47 ≤ z ∧ C ≤ 8 * z + 153) ∨ (1 ≤ g ∧ 29 ≤ z ∧ C ≤ 8 * z + 144)) : (∀ j : Nat, g ≤ j → j < 13 → 4096 * C + qr_l j A2 N2 ≤ 1150976 + F) ∧ 4096 * C ≤ 1150976 + F := by
  constructor
  · intro j hj1 hj2
    have hjs : j = 0 ∨ j = 1 ∨ j = 2 ∨ j = 3 ∨ j = 4 ∨ j = 5 ∨ j = 6 ∨ j = 7 ∨ j = 8 ∨ j = 9 ∨ j = 10 ∨ j = 11 ∨ j = 12 := by omega
    rcases hjs with rfl | rfl | rfl | rfl | rfl | rfl | rfl | rfl | rfl | rfl | rfl | rfl | rfl
    · exact absurd hj1 (by omega)
    · exact absurd hj1 (by omega)
    · exact absurd hj1 (by omega)
    · exact absurd hj1 (by omega)
    · show 4096 * C + (589824 * N2 + 4128768 - 8192 * A2) ≤ 1150976 + F
      have f4 : 589824 * N + 4128768 - 8192 * A ≤ F := hF 4 (by omega) (by decide)
      clear hF
      omega
    · show 4096 * C + (524288 * N2 + 3670016 - 4096 * A2) ≤ 1150976 + F
      have f4 : 589824 * N + 4128768 - 8192 * A ≤ F := hF 4 (by omega) (by decide)
      have f5 : 524288 * N + 3670016 - 4096 * A ≤ F := hF 5 (by omega) (by decide)
      clear hF
      omega
    · show 4096 * C + (458752 * N2 + 3211264 - 2048 * A2) ≤ 1150976 + F
      have f4 : 589824 * N + 4128768 - 8192 * A ≤ F := hF 4 (by omega) (by decide)
      have f5 : 524288 * N + 3670016 - 4096 * A ≤ F := hF 5 (by omega) (by decide)
      clear hF
      omega
    · show 4096 * C + (393216 * N2 + 2752512 - 1024 * A2) ≤ 1150976 + F
      have f5 : 524288 * N + 3670016 - 4096 * A ≤ F := hF 5 (by omega) (by decide)
      have f6 : 458752 * N + 3211264 - 2048 * A ≤ F := hF 6 (by omega) (by decide)
      clear hF
      omega
    · show 4096 * C + (327680 * N2 + 2293760 - 512 * A2) ≤ 1150976 + F
      have f5 : 524288 * N + 3670016 - 4096 * A ≤ F := hF 5 (by omega) (by decide)
      have f6 : 458752 * N + 3211264 - 2048 * A ≤ F := hF 6 (by omega) (by decide)
      clear hF
      omega
    · show 4096 * C + (262144 * N2 + 1835008 - 256 * A2) ≤ 1150976 + F
      have f6 : 458752 * N + 3211264 - 2048 * A ≤ F := hF 6 (by omega) (by decide)
      have f7 : 393216 * N + 2752512 - 1024 * A ≤ F := hF 7 (by omega) (by decide)
      clear hF
      omega
    · show 4096 * C + (196608 * N2 + 1376256 - 128 * A2) ≤ 1150976 + F
      have f8 : 327680 * N + 2293760 - 512 * A ≤ F := hF 8 (by omega) (by decide)
      clear hF
      omega
    · show 4096 * C + (131072 * N2 + 917504 - 64 * A2) ≤ 1150976 + F
      have f9 : 262144 * N + 1835008 - 256 * A ≤ F := hF 9 (by omega) (by decide)
      clear hF
      omega
    · show 4096 * C + (65536 * N2 + 458752 - 32 * A2) ≤ 1150976 + F
      have f10 : 196608 * N + 1376256 - 128 * A ≤ F := hF 10 (by omega) (by decide)
      clear hF
      omega
  ·
    have f4 : 589824 * N + 4128768 - 8192 * A ≤ F := hF 4 (by omega) (by decide)
    clear hF
    omega
theorem qr_z5 {g : Nat} {A N E z C F A2 N2 G : Int} (hF0 : 0 ≤ F) (hF : ∀ i : Nat, g ≤ i → i < 13 → qr_l i A N ≤ F) (hN : 1 ≤ N) (hN1 : N = 1 → 512 ≤ A) (hz : 0 ≤ z) (hE : 0 ≤ E) (h1 : A ≤ N * 32) (h3 : z * 32 ≤ 65536) (h4 : z * 32 ≤ 2 * E + G) (hC : C ≤ 529) (hm : (A2 = A + E ∧ N2 = N + 1) ∨ (3 ≤ N ∧ A + E - G ≤ 2 * A2 ∧ 2 * N2 ≤ N + 2)) (hg : g = 5) (hG : G = 32) (hC2 : C ≤ 8 * z + 9 ∨ (g = 0 ∧ G = 1 ∧ 47 ≤ z ∧ C ≤ 8 * z + 153) ∨ (1 ≤ g ∧ 29 ≤ z ∧ C ≤ 8 * z + 144)) : (∀ j : Nat, g ≤ j → j < 13 → 4096 * C + qr_l j A2 N2 ≤ 1150976 + F) ∧ 4096 * C ≤ 1150976 + F := by
  constructor
  · intro j hj1 hj2
    have hjs : j = 0 ∨ j = 1 ∨ j = 2 ∨ j = 3 ∨ j = 4 ∨ j = 5 ∨ j = 6 ∨ j = 7 ∨ j = 8 ∨ j = 9 ∨ j = 10 ∨ j = 11 ∨ j = 12 := by omega
    rcases hjs with rfl | rfl | rfl | rfl | rfl | rfl | rfl | rfl | rfl | rfl | rfl | rfl | rfl
    · exact absurd hj1 (by omega)
    · exact absurd hj1 (by omega)
    · exact absurd hj1 (by omega)
    · exact absurd hj1 (by omega)
    · exact absurd hj1 (by omega)
    · show 4096 * C + (524288 * N2 + 3670016 - 4096 * A2) ≤ 1150976 + F
      have f5 : 524288 * N + 3670016 - 4096 * A ≤ F := hF 5 (by omega) (by decide)
      clear hF
      omega
    · show 4096 * C + (458752 * N2 + 3211264 - 2048 * A2) ≤ 1150976 + F
      have f5 : 524288 * N + 3670016 - 4096 * A ≤ F := hF 5 (by omega) (by decide)
      have f6 : 458752 * N + 3211264 - 2048 * A ≤ F := hF 6 (by omega) (by decide)
      clear hF
      omega
    · show 4096 * C + (393216 * N2 + 2752512 - 1024 * A2) ≤ 1150976 + F
      have f5 : 524288 * N + 3670016 - 4096 * A ≤ F := hF 5 (by omega) (by decide)
      have f6 : 458752 * N + 3211264 - 2048 * A ≤ F := hF 6 (by omega) (by decide)
      clear hF
      omega
    · show 4096 * C + (327680 * N2 + 2293760 - 512 * A2) ≤ 1150976 + F
      have f6 : 458752 * N + 3211264 - 2048 * A ≤ F := hF 6 (by omega) (by decide)
      clear hF
      omega
    · show 4096 * C + (262144 * N2 + 1835008 - 256 * A2) ≤ 1150976 + F
      have f7 : 393216 * N + 2752512 - 1024 * A ≤ F := hF 7 (by omega) (by decide)
      clear hF
      omega
    · show 4096 * C + (196608 * N2 + 1376256 - 128 * A2) ≤ 1150976 + F
      have f8 : 327680 * N + 2293760 - 512 * A ≤ F := hF 8 (by omega) (by decide)
      clear hF
      omega
    · show 4096 * C + (131072 * N2 + 917504 - 64 * A2) ≤ 1150976 + F
      have f9 : 262144 * N + 1835008 - 256 * A ≤ F := hF 9 (by omega) (by decide)
      clear hF
      omega
    · show 4096 * C + (65536 * N2 + 458752 - 32 * A2) ≤ 1150976 + F
      have f10 : 196608 * N + 1376256 - 128 * A ≤ F := hF 10 (by omega) (by decide)
      clear hF
      omega
  ·
    have f5 : 524288 * N + 3670016 - 4096 * A ≤ F := hF 5 (by omega) (by decide)
    clear hF
    omega
theorem qr_z6 {g : Nat} {A N E z C F A2 N2 G : Int} (hF0 : 0 ≤ F) (hF : ∀ i : Nat, g ≤ i → i < 13 → qr_l i A N ≤ F) (hN : 1 ≤ N) (hN1 : N = 1 → 512 ≤ A) (hz : 0 ≤ z) (hE : 0 ≤ E) (h1 : A ≤ N * 64) (h3 : z * 64 ≤ 65536) (h4 : z * 64 ≤ 2 * E + G) (hC : C ≤ 529) (hm : (A2 = A + E ∧ N2 = N + 1) ∨ (3 ≤ N ∧ A + E - G ≤ 2 * A2 ∧ 2 * N2 ≤ N + 2)) (hg : g = 6) (hG : G = 64) (hC2 : C ≤ 8 * z + 9 ∨ (g = 0 ∧ G = 1 ∧ 47 ≤ z ∧ C ≤ 8 * z + 153) ∨ (1 ≤ g ∧ 29 ≤ z ∧ C ≤ 8 * z + 144)) : (∀ j : Nat, g ≤ j → j < 13 → 4096 * C + qr_l j A2 N2 ≤ 1150976 + F) ∧ 4096 * C ≤ 1150976 + F := by
  constructor
  · intro j hj1 hj2
    have hjs : j = 0 ∨ j = 1 ∨ j = 2 ∨ j = 3 ∨ j = 4 ∨ j = 5 ∨ j = 6 ∨ j = 7 ∨ j = 8 ∨ j = 9 ∨ j = 10 ∨ j = 11 ∨ j = 12 := by omega
    rcases hjs with rfl | rfl | rfl | rfl | rfl | rfl | rfl | rfl | rfl | rfl | rfl | rfl | rfl
    · exact absurd hj1 (by omega)
    · exact absurd hj1 (by omega)
    · exact absurd hj1 (by omega)
    · exact absurd hj1 (by omega)
    · exact absurd hj1 (by omega)
    · exact absurd hj1 (by omega)
    · show 4096 * C + (458752 * N2 + 3211264 - 2048 * A2) ≤ 1150976 + F
      have f6 : 458752 * N + 3211264 - 2048 * A ≤ F := hF 6 (by omega) (by decide)
      clear hF
      omega
    · show 4096 * C + (393216 * N2 + 2752512 - 1024 * A2) ≤ 1150976 + F
      have f6 : 458752 * N + 3211264 - 2048 * A ≤ F := hF 6 (by omega) (by decide)
      have f7 : 393216 * N + 2752512 - 1024 * A ≤ F := hF 7 (by omega) (by decide)
      clear hF
      omega
    · show 4096 * C + (327680 * N2 + 2293760 - 512 * A2) ≤ 1150976 + F
      have f6 : 458752 * N + 3211264 - 2048 * A ≤ F := hF 6 (by omega) (by decide)
      have f7 : 393216 * N + 2752512 - 1024 * A ≤ F := hF 7 (by omega) (by decide)
      clear hF
      omega
    · show 4096 * C + (262144 * N2 + 1835008 - 256 * A2) ≤ 1150976 + F
      have f7 : 393216 * N + 2752512 - 1024 * A ≤ F := hF 7 (by omega) (by decide)
      clear hF
      omega
    · show 4096 * C + (196608 * N2 + 1376256 - 128 * A2) ≤ 1150976 + F
      have f8 : 327680 * N + 2293760 - 512 * A ≤ F := hF 8 (by omega) (by decide)
      clear hF
      omega
    · show 4096 * C + (131072 * N2 + 917504 - 64 * A2) ≤ 1150976 + F
      have f9 : 262144 * N + 1835008 - 256 * A ≤ F := hF 9 (by omega) (by decide)
      clear hF
      omega
    · show 4096 * C + (65536 * N2 + 458752 - 32 * A2) ≤ 1150976 + F
      have f10 : 196608 * N + 1376256 - 128 * A ≤ F := hF 10 (by omega) (by decide)
      clear hF
      omega
  ·
    have f6 : 458752 * N + 3211264 - 2048 * A ≤ F := hF 6 (by omega) (by decide)
    clear hF
    omega
theorem qr_z7 {g : Nat} {A N E z C F A2 N2 G : Int} (hF0 : 0 ≤ F) (hF : ∀ i : Nat, g ≤ i → i < 13 → qr_l i A N ≤ F) (hN : 1 ≤ N) (hN1 : N = 1 → 512 ≤ A) (hz : 0 ≤ z) (hE : 0 ≤ E) (h1 : A ≤ N * 128) (h3 : z * 128 ≤ 65536) (h4 : z * 128 ≤ 2 * E + G) (hC : C ≤ 529) (hm : (A2 = A + E ∧ N2 = N + 1) ∨ (3 ≤ N ∧ A + E - G ≤ 2 * A2 ∧ 2 * N2 ≤ N + 2)) (hg : g = 7) (hG : G = 128) (hC2 : C ≤ 8 * z + 9 ∨ (g = 0 ∧ G = 1 ∧ 47 ≤ z ∧ C ≤ 8 * z + 153) ∨ (1 ≤ g ∧ 29 ≤ z ∧ C ≤ 8 * z + 144)) : (∀ j : Nat, g ≤ j → j < 13 → 4096 * C + qr_l j A2 N2 ≤ 1150976 + F) ∧ 4096 * C ≤ 1150976 + F := by
  constructor
  · intro j hj1 hj2
    have hjs : j = 0 ∨ j = 1 ∨ j = 2 ∨ j = 3 ∨ j = 4 ∨ j = 5 ∨ j = 6 ∨ j = 7 ∨ j = 8 ∨ j = 9 ∨ j = 10 ∨ j = 11 ∨ j = 12 := by omega
    rcases hjs with rfl | rfl | rfl | rfl | rfl | rfl | rfl | rfl | rfl | rfl | rfl | rfl | rfl
    · exact absurd hj1 (by omega)
    · exact absurd hj1 (by omega)
    · exact absurd hj1 (by omega)
    · exact absurd hj1 (by omega)
    · exact absurd hj1 (by omega)
    · exact absurd hj1 (by omega)
    · exact absurd hj1 (by omega)
    · show 4096 * C + (393216 * N2 + 2752512 - 1024 * A2) ≤ 1150976 + F
      have f7 : 393216 * N + 2752512 - 1024 * A ≤ F := hF 7 (by omega) (by decide)
      clear hF
      omega
    · show 4096 * C + (327680 * N2 + 2293760 - 512 * A2) ≤ 1150976 + F
      have f7 : 393216 * N + 2752512 - 1024 * A ≤ F := hF 7 (by omega) (by decide)
      have f8 : 327680 * N + 2293760 - 512 * A ≤ F := hF 8 (by omega) (by decide)
      clear hF
      omega
    · show 4096 * C + (262144 * N2 + 1835008 - 256 * A2) ≤ 1150976 + F
      have f7 : 393216 * N + 2752512 - 1024 * A ≤ F := hF 7 (by omega) (by decide)
      have f8 : 327680 * N + 2293760 - 512 * A ≤ F := hF 8 (by omega) (by decide)
      clear hF
      omega
    · show 4096 * C + (196608 * N2 + 1376256 - 128 * A2) ≤ 1150976 + F
      have f8 : 327680 * N + 2293760 - 512 * A ≤ F := hF 8 (by omega) (by decide)
      clear hF
      omega
    · show 4096 * C + (131072 * N2 + 917504 - 64 * A2) ≤ 1150976 + F
      have f9 : 262144 * N + 1835008 - 256 * A ≤ F := hF 9 (by omega) (by decide)
      clear hF
      omega
    · show 4096 * C + (65536 * N2 + 458752 - 32 * A2) ≤ 1150976 + F
      have f10 : 196608 * N + 1376256 - 128 * A ≤ F := hF 10 (by omega) (by decide)
      clear hF
      omega
  ·
    have f7 : 393216 * N + 2752512 - 1024 * A ≤ F := hF 7 (by omega) (by decide)
    clear hF
    omega
theorem qr_z8 {g : Nat} {A N E z C F A2 N2 G : Int} (hF0 : 0 ≤ F) (hF : ∀ i : Nat, g ≤ i → i < 13 → qr_l i A N ≤ F) (hN : 1 ≤ N) (hN1 : N = 1 → 512 ≤ A) (hz : 0 ≤ z) (hE : 0 ≤ E) (h1 : A ≤ N * 256) (h3 : z * 256 ≤ 65536) (h4 : z * 256 ≤ 2 * E + G) (hC : C ≤ 529) (hm : (A2 = A + E ∧ N2 = N + 1) ∨ (3 ≤ N ∧ A + E - G ≤ 2 * A2 ∧ 2 * N2 ≤ N + 2)) (hg : g = 8) (hG : G = 256) (hC2 : C ≤ 8 * z + 9 ∨ (g = 0 ∧ G = 1 ∧ 47 ≤ z ∧ C ≤ 8 * z + 153) ∨ (1 ≤ g ∧ 29 ≤ z ∧ C ≤ 8 * z + 144)) : (∀ j : Nat, g ≤ j → j < 13 → 4096 * C + qr_l j A2 N2 ≤ 1150976 + F) ∧ 4096 * C ≤ 1150976 + F := by
  constructor
  · intro j hj1 hj2
    have hjs : j = 0 ∨ j = 1 ∨ j = 2 ∨ j = 3 ∨ j = 4 ∨ j = 5 ∨ j = 6 ∨ j = 7 ∨ j = 8 ∨ j = 9 ∨ j = 10 ∨ j = 11 ∨ j = 12 := by omega
    rcases hjs with rfl | rfl | rfl | rfl | rfl | rfl | rfl | rfl | rfl | rfl | rfl | rfl | rfl
    · exact absurd hj1 (by omega)
    · exact absurd hj1 (by omega)
    · exact absurd hj1 (by omega)
    · exact absurd hj1 (by omega)
    · exact absurd hj1 (by omega)
    · exact absurd hj1 (by omega)
    · exact absurd hj1 (by omega)
    · exact absurd hj1 (by omega)
    · show 4096 * C + (327680 * N2 + 2293760 - 512 * A2) ≤ 1150976 + F
      have f8 : 327680 * N + 2293760 - 512 * A ≤ F := hF 8 (by omega) (by decide)
      clear hF
      omega
    · show 4096 * C + (262144 * N2 + 1835008 - 256 * A2) ≤ 1150976 + F
      have f8 : 327680 * N + 2293760 - 512 * A ≤ F := hF 8 (by omega) (by decide)
      have f9 : 262144 * N + 1835008 - 256 * A ≤ F := hF 9 (by omega) (by decide)
      clear hF
      omega
    · show 4096 * C + (196608 * N2 + 1376256 - 128 * A2) ≤ 1150976 + F
      have f8 : 327680 * N + 2293760 - 512 * A ≤ F := hF 8 (by omega) (by decide)
      have f9 : 262144 * N + 1835008 - 256 * A ≤ F := hF 9 (by omega) (by decide)
      clear hF
      omega
    · show 4096 * C + (131072 * N2 + 917504 - 64 * A2) ≤ 1150976 + F
      have f9 : 262144 * N + 1835008 - 256 * A ≤ F := hF 9 (by omega) (by decide)
      clear hF
      omega
    · show 4096 * C + (65536 * N2 + 458752 - 32 * A2) ≤ 1150976 + F
      have f10 : 196608 * N + 1376256 - 128 * A ≤ F := hF 10 (by omega) (by decide)
      clear hF
      omega
  ·
    have f8 : 327680 * N + 2293760 - 512 * A ≤ F := hF 8 (by omega) (by decide)
    clear hF
    omega
theorem qr_z9 {g : Nat} {A N E z C F A2 N2 G : Int} (hF0 : 0 ≤ F) (hF : ∀ i : Nat, g ≤ i → i < 13 → qr_l i A N ≤ F) (hN : 1 ≤ N) (hN1 : N = 1 → 512 ≤ A) (hz : 0 ≤ z) (hE : 0 ≤ E) (h1 : A ≤ N * 512) (h3 : z * 512 ≤ 65536) (h4 : z * 512 ≤ 2 * E + G) (hC : C ≤ 529) (hm : (A2 = A + E ∧ N2 = N + 1) ∨ (3 ≤ N ∧ A + E - G ≤ 2 * A2 ∧ 2 * N2 ≤ N + 2)) (hg : g = 9) (hG : G = 512) (hC2 : C ≤ 8 * z + 9 ∨ (g = 0 ∧ G = 1 ∧ 47 ≤ z ∧ C ≤ 8 * z + 153) ∨ (1 ≤ g ∧ 29 ≤ z ∧ C ≤ 8 * z + 144)) : (∀ j : Nat, g ≤ j → j < 13 → 4096 * C + qr_l j A2 N2 ≤ 1150976 + F) ∧ 4096 * C ≤ 1150976 + F := by
  constructor
  · intro j hj1 hj2
    have hjs : j = 0 ∨ j = 1 ∨ j = 2 ∨ j = 3 ∨ j = 4 ∨ j = 5 ∨ j = 6 ∨ j = 7 ∨ j = 8 ∨ j = 9 ∨ j = 10 ∨ j = 11 ∨ j = 12 := by omega
    rcases hjs with rfl | rfl | rfl | rfl | rfl | rfl | rfl | rfl | rfl | rfl | rfl | rfl | rfl
    · exact absurd hj1 (by omega)
    · exact absurd hj1 (by omega)
    · exact absurd hj1 (by omega)
    · exact absurd hj1 (by omega)
    · exact absurd hj1 (by omega)
    · exact absurd hj1 (by omega)
    · exact absurd hj1 (by omega)
    · exact absurd hj1 (by omega)
    · exact absurd hj1 (by omega)
    · show 4096 * C + (262144 * N2 + 1835008 - 256 * A2) ≤ 1150976 + F
      have f9 : 262144 * N + 1835008 - 256 * A ≤ F := hF 9 (by omega) (by decide)
      clear hF
      omega
    · show 4096 * C + (196608 * N2 + 1376256 - 128 * A2) ≤ 1150976 + F
      have f9 : 262144 * N + 1835008 - 256 * A ≤ F := hF 9 (by omega) (by decide)
      have f10 : 196608 * N + 1376256 - 128 * A ≤ F := hF 10 (by omega) (by decide)
      clear hF
      omega
    · show 4096 * C + (131072 * N2 + 917504 - 64 * A2) ≤ 1150976 + F
      have f9 : 262144 * N + 1835008 - 256 * A ≤ F := hF 9 (by omega) (by decide)
      have f10 : 196608 * N + 1376256 - 128 * A ≤ F := hF 10 (by omega) (by decide)
      clear hF
      omega
    · show 4096 * C + (65536 * N2 + 458752 - 32 * A2) ≤ 1150976 + F
      have f10 : 196608 * N + 1376256 - 128 * A ≤ F := hF 10 (by omega) (by decide)
      have f11 : 131072 * N + 917504 - 64 * A ≤ F := hF 11 (by omega) (by decide)
      clear hF
      omega
  ·
    have f9 : 262144 * N + 1835008 - 256 * A ≤ F := hF 9 (by omega) (by decide)
    clear hF
    omega
theorem qr_z10 {g : Nat} {A N E z C F A2 N2 G : Int} (hF0 : 0 ≤ F) (hF : ∀ i : Nat, g ≤ i → i < 13 → qr_l i A N ≤ F) (hN : 1 ≤ N) (hN1 : N = 1 → 512 ≤ A) (hz : 0 ≤ z) (hE : 0 ≤ E) (h1 : A ≤ N * 1024) (h3 : z * 1024 ≤ 65536) (h4 : z * 1024 ≤ 2 * E + G) (hC : C ≤ 529) (hm : (A2 = A + E ∧ N2 = N + 1) ∨ (3 ≤ N ∧ A + E - G ≤ 2 * A2 ∧ 2 * N2 ≤ N + 2)) (hg : g = 10) (hG : G = 1024) (hC2 : C ≤ 8 * z + 9 ∨ (g = 0 ∧ G = 1 ∧ 47 ≤ z ∧ C ≤ 8 * z + 153) ∨ (1 ≤ g ∧ 29 ≤ z ∧ C ≤ 8 * z + 144)) : (∀ j : Nat, g ≤ j → j < 13 → 4096 * C + qr_l j A2 N2 ≤ 1150976 + F) ∧ 4096 * C ≤ 1150976 + F := by
  constructor
  · intro j hj1 hj2
    have hjs : j = 0 ∨ j = 1 ∨ j = 2 ∨ j = 3 ∨ j = 4 ∨ j = 5 ∨ j = 6 ∨ j = 7 ∨ j = 8 ∨ j = 9 ∨ j = 10 ∨ j = 11 ∨ j = 12 := by omega
    rcases hjs with rfl | rfl | rfl | rfl | rfl | rfl | rfl | rfl | rfl | rfl | rfl | rfl | rfl
    · exact absurd hj1 (by omega)
    · exact absurd hj1 (by omega)
    · exact absurd hj1 (by omega)
    · exact absurd hj1 (by omega)
    · exact absurd hj1 (by omega)
    · exact absurd hj1 (by omega)
    · exact absurd hj1 (by omega)
    · exact absurd hj1 (by omega)
    · exact absurd hj1 (by omega)
    · exact absurd hj1 (by omega)
    · show 4096 * C + (196608 * N2 + 1376256 - 128 * A2) ≤ 1150976 + F
      have f10 : 196608 * N + 1376256 - 128 * A ≤ F := hF 10 (by omega) (by decide)
      clear hF
      omega
    · show 4096 * C + (131072 * N2 + 917504 - 64 * A2) ≤ 1150976 + F
      have f10 : 196608 * N + 1376256 - 128 * A ≤ F := hF 10 (by omega) (by decide)
      have f11 : 131072 * N + 917504 - 64 * A ≤ F := hF 11 (by omega) (by decide)
      clear hF
      omega
    · show 4096 * C + (65536 * N2 + 458752 - 32 * A2) ≤ 1150976 + F
      have f10 : 196608 * N + 1376256 - 128 * A ≤ F := hF 10 (by omega) (by decide)
      have f11 : 131072 * N + 917504 - 64 * A ≤ F := hF 11 (by omega) (by decide)
      clear hF
      omega
  ·
    have f10 : 196608 * N + 1376256 - 128 * A ≤ F := hF 10 (by omega) (by decide)
    clear hF
    omega
theorem qr_z11 {g : Nat} {A N E z C F A2 N2 G : Int} (hF0 : 0 ≤ F) (hF : ∀ i : Nat, g ≤ i → i < 13 → qr_l i A N ≤ F) (hN : 1 ≤ N) (hN1 : N = 1 → 512 ≤ A) (hz : 0 ≤ z) (hE : 0 ≤ E) (h1 : A ≤ N * 2048) (h3 : z * 2048 ≤ 65536) (h4 : z * 2048 ≤ 2 * E + G) (hC : C ≤ 529) (hm : (A2 = A + E ∧ N2 = N + 1) ∨ (3 ≤ N ∧ A + E - G ≤ 2 * A2 ∧ 2 * N2 ≤ N + 2)) (hg : g = 11) (hG : G = 2048) (hC2 : C ≤ 8 * z + 9 ∨ (g = 0 ∧ G = 1 ∧ 47 ≤ z ∧ C ≤ 8 * z + 153) ∨ (1 ≤ g ∧ 29 ≤ z ∧ C ≤ 8 * z + 144)) : (∀ j : Nat, g ≤ j → j < 13 → 4096 * C + qr_l j A2 N2 ≤ 1150976 + F) ∧ 4096 * C ≤ 1150976 + F := by
  constructor
  · intro j hj1 hj2
    have hjs : j = 0 ∨ j = 1 ∨ j = 2 ∨ j = 3 ∨ j = 4 ∨ j = 5 ∨ j = 6 ∨ j = 7 ∨ j = 8 ∨ j = 9 ∨ j = 10 ∨ j = 11 ∨ j = 12 := by omega
    rcases hjs with rfl | rfl | rfl | rfl | rfl | rfl | rfl | rfl | rfl | rfl | rfl | rfl | rfl
    · exact absurd hj1 (by omega)
    · exact absurd hj1 (by omega)
    · exact absurd hj1 (by omega)
    · exact absurd hj1 (by omega)
    · exact absurd hj1 (by omega)
    · exact absurd hj1 (by omega)
    · exact absurd hj1 (by omega)
    · exact absurd hj1 (by omega)
    · exact absurd hj1 (by omega)
    · exact absurd hj1 (by omega)
    · exact absurd hj1 (by omega)
    · show 4096 * C + (131072 * N2 + 917504 - 64 * A2) ≤ 1150976 + F
      have f11 : 131072 * N + 917504 - 64 * A ≤ F := hF 11 (by omega) (by decide)
      clear hF
      omega
    · show 4096 * C + (65536 * N2 + 458752 - 32 * A2) ≤ 1150976 + F
      have f11 : 131072 * N + 917504 - 64 * A ≤ F := hF 11 (by omega) (by decide)
      have f12 : 65536 * N + 458752 - 32 * A ≤ F := hF 12 (by omega) (by decide)
      clear hF
      omega
  ·
    have f11 : 131072 * N + 917504 - 64 * A ≤ F := hF 11 (by omega) (by decide)
    clear hF
    omega
theorem qr_z12 {g : Nat} {A N E z C F A2 N2 G : Int} (hF0 : 0 ≤ F) (hF : ∀ i : Nat, g ≤ i → i < 13 → qr_l i A N ≤ F) (hN : 1 ≤ N) (hN1 : N = 1 → 512 ≤ A) (hz : 0 ≤ z) (hE : 0 ≤ E) (h1 : A ≤ N * 4096) (h3 : z * 4096 ≤ 65536) (h4 : z * 4096 ≤ 2 * E + G) (hC : C ≤ 529) (hm : (A2 = A + E ∧ N2 = N + 1) ∨ (3 ≤ N ∧ A + E - G ≤ 2 * A2 ∧ 2 * N2 ≤ N + 2)) (hg : g = 12) (hG : G = 4096) (hC2 : C ≤ 8 * z + 9 ∨ (g = 0 ∧ G = 1 ∧ 47 ≤ z ∧ C ≤ 8 * z + 153) ∨ (1 ≤ g ∧ 29 ≤ z ∧ C ≤ 8 * z + 144)) : (∀ j : Nat, g ≤ j → j < 13 → 4096 * C + qr_l j A2 N2 ≤ 1150976 + F) ∧ 4096 * C ≤ 1150976 + F := by
  constructor
  · intro j hj1 hj2
    have hjs : j = 0 ∨ j = 1 ∨ j = 2 ∨ j = 3 ∨ j = 4 ∨ j = 5 ∨ j = 6 ∨ j = 7 ∨ j = 8 ∨ j = 9 ∨ j = 10 ∨ j = 11 ∨ j = 12 := by omega
    rcases hjs with rfl | rfl | rfl | rfl | rfl | rfl | rfl | rfl | rfl | rfl | rfl | rfl | rfl
    · exact absurd hj1 (by omega)
    · exact absurd hj1 (by omega)
    · exact absurd hj1 (by omega)
    · exact absurd hj1 (by omega)
    · exact absurd hj1 (by omega)
    · exact absurd hj1 (by omega)
    · exact absurd hj1 (by omega)
    · exact absurd hj1 (by omega)
    · exact absurd hj1 (by omega)
    · exact absurd hj1 (by omega)
    · exact absurd hj1 (by omega)
    · exact absurd hj1 (by omega)
    · show 4096 * C + (65536 * N2 + 458752 - 32 * A2) ≤ 1150976 + F
      have f12 : 65536 * N + 458752 - 32 * A ≤ F := hF 12 (by omega) (by decide)
      clear hF
      omega
  ·
    clear hF
    omega
theorem qr_z13 {g : Nat} {A N E z C F A2 N2 G : Int} (hF0 : 0 ≤ F) (hF : ∀ i : Nat, g ≤ i → i < 13 → qr_l i A N ≤ F) (hN : 1 ≤ N) (hN1 : N = 1 → 512 ≤ A) (hz : 0 ≤ z) (hE : 0 ≤ E) (h1 : A ≤ N * 8192) (h3 : z * 8192 ≤ 65536) (h4 : z * 8192 ≤ 2 * E + G) (hC : C ≤ 529) (hm : (A2 = A + E ∧ N2 = N + 1) ∨ (3 ≤ N ∧ A + E - G ≤ 2 * A2 ∧ 2 * N2 ≤ N + 2)) (hg : g = 13) (hG : G = 8192) (hC2 : C ≤ 8 * z + 9 ∨ (g = 0 ∧ G = 1 ∧ 47 ≤ z ∧ C ≤ 8 * z + 153) ∨ (1 ≤ g ∧ 29 ≤ z ∧ C ≤ 8 * z + 144)) : (∀ j : Nat, g ≤ j → j < 13 → 4096 * C + qr_l j A2 N2 ≤ 1150976 + F) ∧ 4096 * C ≤ 1150976 + F := by
  constructor
  · intro j hj1 hj2
    have hjs : j = 0 ∨ j = 1 ∨ j = 2 ∨ j = 3 ∨ j = 4 ∨ j = 5 ∨ j = 6 ∨ j = 7 ∨ j = 8 ∨ j = 9 ∨ j = 10 ∨ j = 11 ∨ j = 12 := by omega
    rcases hjs with rfl | rfl | rfl | rfl | rfl | rfl | rfl | rfl | rfl | rfl | rfl | rfl | rfl
    · exact absurd hj1 (by omega)
    · exact absurd hj1 (by omega)
    · exact absurd hj1 (by omega)
    · exact absurd hj1 (by omega)
    · exact absurd hj1 (by omega)
    · exact absurd hj1 (by omega)
    · exact absurd hj1 (by omega)
    · exact absurd hj1 (by omega)
    · exact absurd hj1 (by omega)
    · exact absurd hj1 (by omega)
    · exact absurd hj1 (by omega)
    · exact absurd hj1 (by omega)
    · exact absurd hj1 (by omega)
  ·
    clear hF
    omega
theorem qr_z14 {g : Nat} {A N E z C F A2 N2 G : Int} (hF0 : 0 ≤ F) (hF : ∀ i : Nat, g ≤ i → i < 13 → qr_l i A N ≤ F) (hN : 1 ≤ N) (hN1 : N = 1 → 512 ≤ A) (hz : 0 ≤ z) (hE : 0 ≤ E) (h1 : A ≤ N * 16384) (h3 : z * 16384 ≤ 65536) (h4 : z * 16384 ≤ 2 * E + G) (hC : C ≤ 529) (hm : (A2 = A + E ∧ N2 = N + 1) ∨ (3 ≤ N ∧ A + E - G ≤ 2 * A2 ∧ 2 * N2 ≤ N + 2)) (hg : g = 14) (hG : G = 16384) (hC2 : C ≤ 8 * z + 9 ∨ (g = 0 ∧ G = 1 ∧ 47 ≤ z ∧ C ≤ 8 * z + 153) ∨ (1 ≤ g ∧ 29 ≤ z ∧ C ≤ 8 * z + 144)) : (∀ j : Nat, g ≤ j → j < 13 → 4096 * C + qr_l j A2 N2 ≤ 1150976 + F) ∧ 4096 * C ≤ 1150976 + F := by
  constructor
  · intro j hj1 hj2
    have hjs : j = 0 ∨ j = 1 ∨ j = 2 ∨ j = 3 ∨ j = 4 ∨ j = 5 ∨ j = 6 ∨ j = 7 ∨ j = 8 ∨ j = 9 ∨ j = 10 ∨ j = 11 ∨ j = 12 := by omega
    rcases hjs with rfl | rfl | rfl | rfl | rfl | rfl | rfl | rfl | rfl | rfl | rfl | rfl | rfl
    · exact absurd hj1 (by omega)
    · exact absurd hj1 (by omega)
    · exact absurd hj1 (by omega)
    · exact absurd hj1 (by omega)
    · exact absurd hj1 (by omega)
    · exact absurd hj1 (by omega)
    · exact absurd hj1 (by omega)
    · exact absurd hj1 (by omega)
    · exact absurd hj1 (by omega)
    · exact absurd hj1 (by omega)
    · exact absurd hj1 (by omega)
    · exact absurd hj1 (by omega)
    · exact absurd hj1 (by omega)
  ·
    clear hF
    omega
theorem qr_z15 {g : Nat} {A N E z C F A2 N2 G : Int} (hF0 : 0 ≤ F) (hF : ∀ i : Nat, g ≤ i → i < 13 → qr_l i A N ≤ F) (hN : 1 ≤ N) (hN1 : N = 1 → 512 ≤ A) (hz : 0 ≤ z) (hE : 0 ≤ E) (h1 : A ≤ N * 32768) (h3 : z * 32768 ≤ 65536) (h4 : z * 32768 ≤ 2 * E + G) (hC : C ≤ 529) (hm : (A2 = A + E ∧ N2 = N + 1) ∨ (3 ≤ N ∧ A + E - G ≤ 2 * A2 ∧ 2 * N2 ≤ N + 2)) (hg : g = 15) (hG : G = 32768) (hC2 : C ≤ 8 * z + 9 ∨ (g = 0 ∧ G = 1 ∧ 47 ≤ z ∧ C ≤ 8 * z + 153) ∨ (1 ≤ g ∧ 29 ≤ z ∧ C ≤ 8 * z + 144)) : (∀ j : Nat, g ≤ j → j < 13 → 4096 * C + qr_l j A2 N2 ≤ 1150976 + F) ∧ 4096 * C ≤ 1150976 + F := by
  constructor
  · intro j hj1 hj2
    have hjs : j = 0 ∨ j = 1 ∨ j = 2 ∨ j = 3 ∨ j = 4 ∨ j = 5 ∨ j = 6 ∨ j = 7 ∨ j = 8 ∨ j = 9 ∨ j = 10 ∨ j = 11 ∨ j = 12 := by omega
    rcases hjs with rfl | rfl | rfl | rfl | rfl | rfl | rfl | rfl | rfl | rfl | rfl | rfl | rfl
    · exact absurd hj1 (by omega)
    · exact absurd hj1 (by omega)
    · exact absurd hj1 (by omega)
    · exact absurd hj1 (by omega)
    · exact absurd hj1 (by omega)
    · exact absurd hj1 (by omega)
    · exact absurd hj1 (by omega)
    · exact absurd hj1 (by omega)
    · exact absurd hj1 (by omega)
    · exact absurd hj1 (by omega)
    · exact absurd hj1 (by omega)
    · exact absurd hj1 (by omega)
    · exact absurd hj1 (by omega)
  ·
    clear hF
    omega
theorem qr_z16 {g : Nat} {A N E z C F A2 N2 G : Int} (hF0 : 0 ≤ F) (hF : ∀ i : Nat, g ≤ i → i < 13 → qr_l i A N ≤ F) (hN : 1 ≤ N) (hN1 : N = 1 → 512 ≤ A) (hz : 0 ≤ z) (hE : 0 ≤ E) (h1 : A ≤ N * 65536) (h3 : z * 65536 ≤ 65536) (h4 : z * 65536 ≤ 2 * E + G) (hC : C ≤ 529) (hm : (A2 = A + E ∧ N2 = N + 1) ∨ (3 ≤ N ∧ A + E - G ≤ 2 * A2 ∧ 2 * N2 ≤ N + 2)) (hg : g = 16) (hG : G = 65536) (hC2 : C ≤ 8 * z + 9 ∨ (g = 0 ∧ G = 1 ∧ 47 ≤ z ∧ C ≤ 8 * z + 153) ∨ (1 ≤ g ∧ 29 ≤ z ∧ C ≤ 8 * z + 144)) : (∀ j : Nat, g ≤ j → j < 13 → 4096 * C + qr_l j A2 N2 ≤ 1150976 + F) ∧ 4096 * C ≤ 1150976 + F := by
  constructor
  · intro j hj1 hj2
    have hjs : j = 0 ∨ j = 1 ∨ j = 2 ∨ j = 3 ∨ j = 4 ∨ j = 5 ∨ j = 6 ∨ j = 7 ∨ j = 8 ∨ j = 9 ∨ j = 10 ∨ j = 11 ∨ j = 12 := by omega
    rcases hjs with rfl | rfl | rfl | rfl | rfl | rfl | rfl | rfl | rfl | rfl | rfl | rfl | rfl
    · exact absurd hj1 (by omega)
    · exact absurd hj1 (by omega)
    · exact absurd hj1 (by omega)
    · exact absurd hj1 (by omega)
    · exact absurd hj1 (by omega)
    · exact absurd hj1 (by omega)
    · exact absurd hj1 (by omega)
    · exact absurd hj1 (by omega)
    · exact absurd hj1 (by omega)
    · exact absurd hj1 (by omega)
    · exact absurd hj1 (by omega)
    · exact absurd hj1 (by omega)
    · exact absurd hj1 (by omega)
  ·
    clear hF
    omega
