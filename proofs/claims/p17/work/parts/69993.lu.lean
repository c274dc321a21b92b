/-! what was unpacked is the same -/
/-- the same reader, but for what is kept -/
def sK (S : SR) (K : MT) : SR := (S.1, S.2.1, S.2.2.1, S.2.2.2.1, S.2.2.2.2.1, K, S.2.2.2.2.2.2)
section SK
variable {A : TN} {m a : Int} {S S1 : SR} {K K1 K2 : MT}
theorem sec_K (h : sec A m a S = some S1) : ∃ K', sec A m a (sK S K) = some (sK S1 K') := by
  unfold sec at h ⊢
  by_cases m1 : m = 247
  · rw [if_pos m1] at h ⊢
    by_cases c1 : S.2.1.2.2.1 = 0 ∧ okF A a
    · rw [cif_pos c1] at h
      injection h with h
      rw [← h]
      exact ⟨K, cif_pos c1⟩
    · rw [cif_neg c1] at h
      cases h
  · rw [if_neg m1] at h ⊢
    by_cases m2 : m = 248
    · rw [if_pos m2] at h ⊢
      by_cases c1 : okM A a
      · rw [cif_pos c1] at h
        injection h with h
        rw [← h]
        exact ⟨K, cif_pos c1⟩
      · rw [cif_neg c1] at h
        cases h
    · rw [if_neg m2] at h ⊢
      by_cases m3 : m = 218
      · rw [if_pos m3] at h ⊢
        by_cases c1 : S.2.2.1 < S.2.1.2.2.1 ∧ okS A a (qN A S.2.2.2.1 S.2.2.1) ∧ VS S.2.2.2.2.1 S.2.1.2.2.2 (gB A (a + 5))
        · rw [cif_pos c1] at h
          obtain ⟨X, hX, h2⟩ := bd_so h
          injection h2 with h2
          refine ⟨X.2.1, (cif_pos c1).trans ?_⟩
          show (plS A S.2.2.2.2.1 S.2.1.1 S.2.1.2.1 S.2.1.2.2.2 a).bind (fun X => some (scN (sK S K) X)) = _
          rw [hX, bd_s, ← h2]
          rfl
        · rw [cif_neg c1] at h
          cases h
      · rw [if_neg m3] at h ⊢
        by_cases c1 : ((224 ≤ m ∧ m ≤ 239) ∨ m = 254) ∧ okE A a
        · rw [cif_pos c1] at h
          injection h with h
          rw [← h]
          exact ⟨K, cif_pos c1⟩
        · rw [cif_neg c1] at h
          cases h
theorem sK_sK : sK (sK S K1) K2 = sK S K2 := rfl
theorem sK_id : sK S S.2.2.2.2.2.1 = S := rfl
theorem sec_Kn (h : sec A m a S = none) : sec A m a (sK S K) = none := by
  cases h2 : sec A m a (sK S K) with
  | none => rfl
  | some S2 =>
    obtain ⟨K', h3⟩ := sec_K (K := S.2.2.2.2.2.1) h2
    rw [sK_sK, sK_id, h] at h3
    cases h3
theorem secs_K : ∀ (n : Nat) (S : SR) (K : MT) (S1 : SR), (secs A n S).1 = some S1 → ∃ K', (secs A n (sK S K)).1 = some (sK S1 K')
  | 0, S, K, S1, h => by
    rw [secs] at h
    cases h
  | n + 1, S, K, S1, h => by
    cases hm : rdMk A S.1 with
    | none =>
      rw [secs_n hm] at h
      cases h
    | some q =>
      have e1 : secs A (n + 1) S = secK A (secs A n) q.1 q.2 S := secs_m hm
      have e2 : secs A (n + 1) (sK S K) = secK A (secs A n) q.1 q.2 (sK S K) := secs_m (S := sK S K) hm
      rw [e1] at h
      rw [e2]
      by_cases h7 : q.1 = 217
      · rw [h7] at h ⊢
        by_cases hc : S.2.1.2.2.1 ≠ 0 ∧ S.2.2.1 = S.2.1.2.2.1 ∧ A.2 ≤ q.2
        · rw [secK_y hc] at h
          injection h with h
          rw [secK_y (S := sK S K) hc, ← h]
          exact ⟨K, rfl⟩
        · rw [secK_x hc] at h
          cases h
      · cases hs : sec A q.1 q.2 S with
        | none =>
          rw [secK_n h7 hs] at h
          cases h
        | some S2 =>
          rw [secK_s h7 hs] at h
          obtain ⟨K', h3⟩ := sec_K (K := K) hs
          rw [secK_s h7 h3]
          exact secs_K n S2 K' S1 h
theorem rowR_K {S1 : SR} (h : (rowR A K1).1 = some S1) : ∃ K', (rowR A K2).1 = some (sK S1 K') := by
  cases hm : rdMk A 0 with
  | none =>
    rw [rowR_n hm] at h
    cases h
  | some q =>
    by_cases h6 : q.1 = 216
    · have hq : rdMk A 0 = some (216, q.2) := by
        rw [hm, ← h6]
      rw [rowR_s hq] at h ⊢
      exact secs_K 40000 _ K2 S1 h
    · rw [rowR_x (m := q.1) (a := q.2) hm h6] at h
      cases h
end SK
def tqU (s : Nat → Int) (p : Nat → Nat) (c : Nat → Nat → Int) : Prop := (p 8 = 25 ∨ p 8 = 27) ∧ s 10 = s 3007 ∧ (s 10 = 1 → ∃ S, pcE s p c S ∧ rrP (s 3008) (s 3009) (s 3010) (s 3011) (c 33) S)
theorem fr_in {s s1 : Nat → Int} {L V : List Nat} (e : fr s s1 L) (h : ∀ k ∈ V, k ∉ L) : ∀ k ∈ V, s1 k = s k := fun k hk => e k (h k hk)
section TU
variable {s s1 s2 : Nat → Int} {p p1 : Nat → Nat} {c c1 c2 : Nat → Nat → Int} {n1 : Nat} {K A L L2 : List Nat} {S : SR}
theorem pcE_f (h : pcE s p c S) (h8 : p 8 = 25 ∨ p 8 = 27) (p8 : p1 8 = p 8) (e : ∀ k ∈ [2500, 2501, 2502, 2503, 2700, 2701, 2702, 2703], s1 k = s k) (r1 : c1 (p1 2504) = c (p 2504)) (r2 : c1 (p1 2704) = c (p 2704)) : pcE s1 p1 c1 S := by
  unfold pcE at h ⊢
  rw [p8]
  rcases h8 with h8 | h8
  · rw [h8] at h ⊢
    have h : rwE (s 2500) (s 2501) (s 2502) (s 2503) (c (p 2504)) S := h
    show rwE (s1 2500) (s1 2501) (s1 2502) (s1 2503) (c1 (p1 2504)) S
    rw [e 2500 (by decide), e 2501 (by decide), e 2502 (by decide), e 2503 (by decide), r1]
    exact h
  · rw [h8] at h ⊢
    have h : rwE (s 2700) (s 2701) (s 2702) (s 2703) (c (p 2704)) S := h
    show rwE (s1 2700) (s1 2701) (s1 2702) (s1 2703) (c1 (p1 2704)) S
    rw [e 2700 (by decide), e 2701 (by decide), e 2702 (by decide), e 2703 (by decide), r2]
    exact h
theorem tqU_f (h : tqU s p c) (F : fk p c n1 p1 c1 K) (G : fk p1 c1 n1 p1 c2 A) (hk : (2504 ∉ K ∧ 2704 ∉ K ∧ 33 ∉ K) ∧ 2504 ∉ A ∧ 2704 ∉ A ∧ 33 ∉ A) (e : fr s s1 L) (hl : ∀ k ∈ [10, 3007, 3008, 3009, 3010, 3011, 2500, 2501, 2502, 2503, 2700, 2701, 2702, 2703], k ∉ L) (p8 : p1 8 = p 8) (f : fr s1 s2 L2) (hl2 : ∀ k ∈ [10, 3007, 3008, 3009, 3010, 3011, 2500, 2501, 2502, 2503, 2700, 2701, 2702, 2703], k ∉ L2) : tqU s2 p1 c2 := by
  obtain ⟨h8, h10, hS⟩ := h
  have ee : ∀ k ∈ [10, 3007, 3008, 3009, 3010, 3011, 2500, 2501, 2502, 2503, 2700, 2701, 2702, 2703], s2 k = s k := fun k hk => (f k (hl2 k hk)).trans (e k (hl k hk))
  refine ⟨by rw [p8]; exact h8, by rw [ee 10 (by decide), ee 3007 (by decide)]; exact h10, fun h1 => ?_⟩
  obtain ⟨S, a1, a2⟩ := hS (by rw [← ee 10 (by decide)]; exact h1)
  refine ⟨S, pcE_f a1 h8 p8 (fun k hk9 => ee k (by revert hk9; revert k; decide)) ?_ ?_, ?_⟩
  · rw [fk_k (k := 2504) G ⟨by decide, hk.2.1, rfl⟩, fk_k (k := 2504) F ⟨by decide, hk.1.1, rfl⟩]
  · rw [fk_k (k := 2704) G ⟨by decide, hk.2.2.1, rfl⟩, fk_k (k := 2704) F ⟨by decide, hk.1.2.1, rfl⟩]
  · rw [ee 3008 (by decide), ee 3009 (by decide), ee 3010 (by decide), ee 3011 (by decide), fk_c (k := 33) G ⟨by decide, hk.2.2.2, rfl⟩, fk_c (k := 33) F ⟨by decide, hk.1.2.2, rfl⟩]
    exact a2
theorem rrP_K {w h pl dp : Int} {f : Nat → Int} {K : MT} (hp : rrP w h pl dp f (sK S K)) : rrP w h pl dp f S := hp
theorem un_q {T : TN} {K1 K2 : MT} {k0 k1 k2 k3 : Nat → Int} (h : tqU s p c) (hw : p1 8 = 25 ∨ p1 8 = 27)
    (hk : (s1 10 = 1 ∧ ∃ S, rowR T K1 = (some S, S.2.2.2.2.2.1) ∧ mrk S.2.2.2.2.2.1 (c1 (p1 900)) ∧ pcE s1 p1 c1 S) ∨ ((∃ K, rowR T K1 = (none, K) ∧ mrk K (c1 (p1 900))) ∧ pcS s p c s1 p1 c1))
    (hr : (s2 3050 = 0 ∧ s2 3007 = 1 ∧ ∃ S, rowR T K2 = (some S, S.2.2.2.2.2.1) ∧ rrP (s2 3008) (s2 3009) (s2 3010) (s2 3011) (c2 33) S ∧ mrl S.2.2.2.2.2.1 k0 k1 k2 k3) ∨ (s2 3050 ≠ 0 ∧ (s2 3007 = s1 3007 ∧ (s2 3008 = s1 3008 ∧ s2 3009 = s1 3009) ∧ (s2 3010 = s1 3010 ∧ s2 3011 = s1 3011)) ∧ c2 33 = c1 33 ∧ rrN (rowR T K2) k0 k1 k2 k3))
    (F : fk p c n1 p1 c1 K) (hK : 33 ∉ K) (G : fk p1 c1 n1 p1 c2 A) (hA : 2504 ∉ A ∧ 2704 ∉ A) (e : fr s s1 L) (hl : ∀ k ∈ [3007, 3008, 3009, 3010, 3011], k ∉ L) (f : fr s1 s2 L2) (hl2 : ∀ k ∈ [10, 2500, 2501, 2502, 2503, 2700, 2701, 2702, 2703], k ∉ L2) : tqU s2 p1 c2 := by
  have g1 : c2 (p1 2504) = c1 (p1 2504) := fk_k (k := 2504) G ⟨by decide, hA.1, rfl⟩
  have g2 : c2 (p1 2704) = c1 (p1 2704) := fk_k (k := 2704) G ⟨by decide, hA.2, rfl⟩
  have f0 : s2 10 = s1 10 := f 10 (hl2 10 (by decide))
  have fe : ∀ k ∈ [2500, 2501, 2502, 2503, 2700, 2701, 2702, 2703], s2 k = s1 k := fun k hk9 => f k (hl2 k (List.mem_cons_of_mem 10 hk9))
  rcases hk with ⟨u1, S, u2, u3, u4⟩ | ⟨⟨K9, u1, u2⟩, u3⟩
  · rcases hr with ⟨v1, v2, S2, v3, v4, v5⟩ | ⟨v1, v2, v3, K8, v4, v5⟩
    · obtain ⟨K', w1⟩ := rowR_K (A := T) (K1 := K1) (K2 := K2) (S1 := S) (by rw [u2])
      rw [v3] at w1
      injection w1 with w1
      rw [w1] at v4
      exact ⟨hw, by rw [f0, u1, v2], fun _ => ⟨S, pcE_f u4 hw rfl fe g1 g2, rrP_K v4⟩⟩
    · obtain ⟨K', w1⟩ := rowR_K (A := T) (K1 := K1) (K2 := K2) (S1 := S) (by rw [u2])
      rw [v4] at w1
      cases w1
  · rcases hr with ⟨v1, v2, S2, v3, v4, v5⟩ | ⟨v1, v2, v3, K8, v4, v5⟩
    · obtain ⟨K', w1⟩ := rowR_K (A := T) (K1 := K2) (K2 := K1) (S1 := S2) (by rw [v3])
      rw [u1] at w1
      cases w1
    · obtain ⟨h8, h10, hS⟩ := h
      obtain ⟨w8, w10, w4, wr⟩ := u3
      have ei : ∀ k ∈ [3007, 3008, 3009, 3010, 3011], s1 k = s k := fun k hk9 => e k (hl k hk9)
      refine ⟨hw, by rw [f0, w10, v2.1, ei 3007 (by decide)]; exact h10, fun h1 => ?_⟩
      obtain ⟨S, a1, a2⟩ := hS (by rw [← w10, ← f0]; exact h1)
      refine ⟨S, ?_, ?_⟩
      · refine pcE_f (s := s1) (p := p1) (c := c1) ?_ hw rfl fe g1 g2
        unfold pcE at a1 ⊢
        rw [w8, w4.1, w4.2.1, w4.2.2.1, w4.2.2.2, wr]
        exact a1
      · rw [v2.2.1.1, v2.2.1.2, v2.2.2.1, v2.2.2.2, v3, ei 3008 (by decide), ei 3009 (by decide), ei 3010 (by decide), ei 3011 (by decide), fk_c (k := 33) F ⟨by decide, hK, rfl⟩]
        exact a2
/-- the tape, in the reference's row -/
theorem tp_t (h : s 601 = s 3014) (hB : ∀ i : Nat, (i : Int) < s 601 → c (p 600) i = c 34 i) (F : fk p c n1 p1 c1 K) (hK : 34 ∉ K) (e : fr s s1 L) (hl : 3014 ∉ L) : tpl ((fun i => c (p 600) i % 256, s 601) : TN) (s1 3014) (c1 34) := by
  refine ⟨by show s1 3014 = s 601; rw [e 3014 hl, h], fun i hi => ?_⟩
  show c1 34 i % 256 = c (p 600) i % 256
  rw [fk_c (k := 34) F ⟨by decide, hK, rfl⟩, hB i hi]
/-- what was asked -/
theorem ab_q {r co o b i : Int} (h : tqU s p c) (e : ∀ k ∈ [3007, 3008, 3009, 3010, 3011], s1 k = s k) (h0 : r = 0 → (0 ≤ i ∧ i ≤ 3) ∧ s 10 = 1 ∧ o = abV i s p) (h1 : r ≠ 0 → (r = 1 ∧ ¬ (0 ≤ i ∧ i ≤ 3)) ∨ (r = 2 ∧ (0 ≤ i ∧ i ≤ 3) ∧ s 10 ≠ 1)) (k0 : co = (if 0 ≤ i ∧ i ≤ 3 then (if s1 3007 = 1 then 0 else 2) else 1)) (k1 : (0 ≤ i ∧ i ≤ 3) → s1 3007 = 1 → b = abR i (s1 3008) (s1 3009) (s1 3010) (s1 3011)) : co = r ∧ (r = 0 → o = b) := by
  obtain ⟨h8, h10, hS⟩ := h
  have ei := e 3007 (by decide)
  by_cases er : r = 0
  · obtain ⟨g1, g2, g3⟩ := h0 er
    rw [if_pos g1, if_pos (by omega)] at k0
    refine ⟨by omega, fun _ => ?_⟩
    obtain ⟨S, a1, a2⟩ := hS g2
    have a3 := a1.1
    have a4 := a2.1
    rw [a3] at a4
    rw [g3, k1 g1 (by omega), e 3008 (by decide), e 3009 (by decide), e 3010 (by decide), e 3011 (by decide)]
    injection a4 with b1 b2
    injection b2 with b2 b3
    injection b3 with b3 b4
    unfold abV abR
    rw [b1, b2, b3, b4]
  · refine ⟨?_, fun e0 => absurd e0 er⟩
    rcases h1 er with ⟨g1, g2⟩ | ⟨g1, g2, g3⟩
    · rw [if_neg g2] at k0
      omega
    · rw [if_pos g2, if_neg (by omega)] at k0
      omega
theorem sm_q {r co o b a x y : Int} (h : tqU s p c) (F : fk p c n1 p1 c1 K) (hK : 33 ∉ K) (e : ∀ k ∈ [3007, 3008, 3009, 3010, 3011], s1 k = s k) (h0 : r = 0 → s 10 = 1 ∧ ((0 ≤ a ∧ a < s (100 * p 8 + 2)) ∧ (0 ≤ x ∧ x < s (100 * p 8)) ∧ (0 ≤ y ∧ y < s (100 * p 8 + 1))) ∧ o = c (p (100 * p 8 + 4)) ((a * s (100 * p 8 + 1) + y) * s (100 * p 8) + x).toNat) (h1 : r ≠ 0 → (r = 1 ∧ s 10 ≠ 1) ∨ (r = 2 ∧ s 10 = 1 ∧ ¬ ((0 ≤ a ∧ a < s (100 * p 8 + 2)) ∧ (0 ≤ x ∧ x < s (100 * p 8)) ∧ (0 ≤ y ∧ y < s (100 * p 8 + 1))))) (k0 : co = (if s1 3007 = 1 then (if (0 ≤ a ∧ a < s1 3010) ∧ (0 ≤ x ∧ x < s1 3008) ∧ (0 ≤ y ∧ y < s1 3009) then 0 else 2) else 1)) (k1 : s1 3007 = 1 → ((0 ≤ a ∧ a < s1 3010) ∧ (0 ≤ x ∧ x < s1 3008) ∧ (0 ≤ y ∧ y < s1 3009)) → b = c1 33 (4096 * a + 64 * y + x).toNat) : co = r ∧ (r = 0 → o = b) := by
  obtain ⟨h8, h10, hS⟩ := h
  have ei := e 3007 (by decide)
  rw [e 3008 (by decide), e 3009 (by decide), e 3010 (by decide)] at k0 k1
  by_cases h1s : s 10 = 1
  · obtain ⟨S, a1, a2⟩ := hS h1s
    have a3 := a1.1
    have a4 := a2.1
    rw [a3] at a4
    injection a4 with b1 b2
    injection b2 with b2 b3
    injection b3 with b3 b4
    have hu := a1.2.2
    have hv := a2.2.2
    rw [← b1, ← b2, ← b3] at k0 k1
    rw [← b1, ← b2, ← b3] at hv
    rw [if_pos (by omega)] at k0
    by_cases er : r = 0
    · obtain ⟨g1, g2, g3⟩ := h0 er
      rw [if_pos g2] at k0
      refine ⟨by omega, fun _ => ?_⟩
      rw [g3, k1 (by omega) g2, fk_c (k := 33) F ⟨by decide, hK, rfl⟩, hu a g2.1.1 g2.1.2 y x g2.2.2.1 g2.2.2.2 g2.2.1.1 g2.2.1.2, hv a g2.1.1 g2.1.2 x y g2.2.1.1 g2.2.1.2 g2.2.2.1 (Or.inl g2.2.2.2)]
    · refine ⟨?_, fun e0 => absurd e0 er⟩
      rcases h1 er with ⟨g1, g2⟩ | ⟨g1, g2, g3⟩
      · exact absurd h1s g2
      · rw [if_neg g3] at k0
        omega
  · rw [if_neg (by omega)] at k0
    by_cases er : r = 0
    · exact absurd (h0 er).1 h1s
    · refine ⟨?_, fun e0 => absurd e0 er⟩
      rcases h1 er with ⟨g1, g2⟩ | ⟨g1, g2, g3⟩
      · omega
      · exact absurd g2 h1s
end TU
/-! what is kept is the same -/
def tqK (p : Nat → Nat) (c : Nat → Nat → Int) : Prop := ∃ K : MT, mrk K (c (p 900)) ∧ mrl K (c 40) (c 41) (c 42) (c 43)
section TK
variable {s s1 s2 : Nat → Int} {p p1 : Nat → Nat} {c c1 c2 : Nat → Nat → Int} {n1 : Nat} {K A : List Nat} {KK : MT}
theorem tqK_f (h : tqK p c) (F : fk p c n1 p1 c1 K) (G : fk p1 c1 n1 p1 c2 A) (hk : (900 ∉ K ∧ 40 ∉ K ∧ 41 ∉ K ∧ 42 ∉ K ∧ 43 ∉ K) ∧ 900 ∉ A ∧ 40 ∉ A ∧ 41 ∉ A ∧ 42 ∉ A ∧ 43 ∉ A) : tqK p1 c2 := by
  obtain ⟨KK, a, b⟩ := h
  refine ⟨KK, ?_, ?_⟩
  · rw [fk_k (k := 900) G ⟨by decide, hk.2.1, rfl⟩, fk_k (k := 900) F ⟨by decide, hk.1.1, rfl⟩]
    exact a
  · rw [fk_c (k := 40) G ⟨by decide, hk.2.2.1, rfl⟩, fk_c (k := 40) F ⟨by decide, hk.1.2.1, rfl⟩, fk_c (k := 41) G ⟨by decide, hk.2.2.2.1, rfl⟩, fk_c (k := 41) F ⟨by decide, hk.1.2.2.1, rfl⟩, fk_c (k := 42) G ⟨by decide, hk.2.2.2.2.1, rfl⟩, fk_c (k := 42) F ⟨by decide, hk.1.2.2.2.1, rfl⟩, fk_c (k := 43) G ⟨by decide, hk.2.2.2.2.2, rfl⟩, fk_c (k := 43) F ⟨by decide, hk.1.2.2.2.2, rfl⟩]
    exact b
theorem mrl_fk (h : mrl KK (c 40) (c 41) (c 42) (c 43)) (F : fk p c n1 p1 c1 K) (hk : 40 ∉ K ∧ 41 ∉ K ∧ 42 ∉ K ∧ 43 ∉ K) : mrl KK (c1 40) (c1 41) (c1 42) (c1 43) := by
  rw [fk_c (k := 40) F ⟨by decide, hk.1, rfl⟩, fk_c (k := 41) F ⟨by decide, hk.2.1, rfl⟩, fk_c (k := 42) F ⟨by decide, hk.2.2.1, rfl⟩, fk_c (k := 43) F ⟨by decide, hk.2.2.2, rfl⟩]
  exact h
theorem tqK_pk {r co w h nr q : Int} {Z : Nat → Int} {E : Int → Int → Int → Int} {n : Nat} {W : WT} {K1 K2 : MT} {X1 X2 X3 Y1 Y2 Y3 : Prop} (h0 : tqK p c) (hco : co = r) (hk : r = 0 → mrk (pKp Z w h E nr n q W K1) (c1 (p1 900))) (hx : r ≠ 0 → fk p c n1 p1 c1 []) (hr : (co = 0 ∧ X1 ∧ X2 ∧ X3 ∧ mrl (pKp Z w h E nr n q W K2) (c2 40) (c2 41) (c2 42) (c2 43)) ∨ (co = 1 ∧ Y1 ∧ Y2 ∧ Y3 ∧ (c2 40 = c1 40 ∧ c2 41 = c1 41 ∧ c2 42 = c1 42 ∧ c2 43 = c1 43))) (hn : 0 < n) (G : fk p1 c1 n1 p1 c2 A) (hA : 900 ∉ A) : tqK p1 c2 := by
  rcases hr with ⟨e0, _, _, _, hm⟩ | ⟨e1, _, _, _, g0, g1, g2, g3⟩
  · refine ⟨_, ?_, hm⟩
    rw [fk_k (k := 900) G ⟨by decide, hA, rfl⟩, pKp_K (K2 := K1) hn]
    exact hk (by omega)
  · obtain ⟨KK, a, b⟩ := h0
    have F := hx (by omega)
    refine ⟨KK, ?_, ?_⟩
    · rw [fk_k (k := 900) G ⟨by decide, hA, rfl⟩, fk_k (k := 900) F (by decide)]
      exact a
    · rw [g0, g1, g2, g3]
      exact mrl_fk b F (by decide)
theorem un_k {T : TN} {X1 X2 Y1 Y2 Y3 Z1 Z2 : Prop} {Q : SR → Prop} {Q2 : SR → Prop} (hk : (X1 ∧ ∃ S, rowR T KK = (some S, S.2.2.2.2.2.1) ∧ mrk S.2.2.2.2.2.1 (c1 (p1 900)) ∧ Q S) ∨ ((∃ K, rowR T KK = (none, K) ∧ mrk K (c1 (p1 900))) ∧ X2)) (hr : (Y1 ∧ Y2 ∧ ∃ S, rowR T KK = (some S, S.2.2.2.2.2.1) ∧ Q2 S ∧ mrl S.2.2.2.2.2.1 (c2 40) (c2 41) (c2 42) (c2 43)) ∨ (Y3 ∧ Z1 ∧ Z2 ∧ rrN (rowR T KK) (c2 40) (c2 41) (c2 42) (c2 43))) (G : fk p1 c1 n1 p1 c2 A) (hA : 900 ∉ A) : tqK p1 c2 := by
  have g := fk_k (k := 900) G ⟨by decide, hA, rfl⟩
  rcases hk with ⟨_, S, u2, u3, _⟩ | ⟨⟨K9, u1, u2⟩, _⟩
  · rcases hr with ⟨_, _, S2, v3, _, v5⟩ | ⟨_, _, _, K8, v4, v5⟩ 
    · rw [u2] at v3
      injection v3 with v3 v6
      rw [← v6] at v5
      exact ⟨_, by rw [g]; exact u3, v5⟩
    · rw [u2] at v4
      injection v4 with v4 v6
      cases v4
  · rcases hr with ⟨_, _, S2, v3, _, v5⟩ | ⟨_, _, _, K8, v4, v5⟩ 
    · rw [u1] at v3
      injection v3 with v3 v6
      cases v3
    · rw [u1] at v4
      injection v4 with v4 v6
      rw [← v6] at v5
      exact ⟨_, by rw [g]; exact u2, v5⟩
theorem lr_q {r co o b i j : Int} (h1 : mrk KK (c (p 900))) (h2 : mrl KK (c1 40) (c1 41) (c1 42) (c1 43)) (h0 : r = 0 → ((0 ≤ i ∧ i < 367) ∧ (0 ≤ j ∧ j < 4)) ∧ o = c (p 900) (4 * i + j).toNat) (hn : r ≠ 0 → (r = 1 ∧ ¬ (0 ≤ i ∧ i < 367)) ∨ (r = 2 ∧ (0 ≤ i ∧ i < 367) ∧ ¬ (0 ≤ j ∧ j < 4))) (k0 : co = (if 0 ≤ i ∧ i ≤ 366 then (if 0 ≤ j ∧ j ≤ 3 then 0 else 2) else 1)) (k1 : (0 ≤ i ∧ i ≤ 366) → (0 ≤ j ∧ j ≤ 3) → b = lrR j (c1 40 i.toNat) (c1 41 i.toNat) (c1 42 i.toNat) (c1 43 i.toNat)) : co = r ∧ (r = 0 → o = b) := by
  by_cases er : r = 0
  · obtain ⟨⟨g1, g2⟩, g3⟩ := h0 er
    rw [if_pos (by omega), if_pos (by omega)] at k0
    refine ⟨by omega, fun _ => ?_⟩
    obtain ⟨m0, m1, m2, m3⟩ := h1 i.toNat (by omega)
    obtain ⟨l0, l1, l2, l3⟩ := h2 i.toNat (by omega)
    rw [g3, k1 (by omega) (by omega), l0, l1, l2, l3]
    unfold lrR
    by_cases j0 : j = 0
    · rw [if_pos j0, ← m0, show (4 * i + j).toNat = 4 * i.toNat + 0 by omega]
    · rw [if_neg j0]
      by_cases j1 : j = 1
      · rw [if_pos j1, ← m1, show (4 * i + j).toNat = 4 * i.toNat + 1 by omega]
      · rw [if_neg j1]
        by_cases j2 : j = 2
        · rw [if_pos j2, ← m2, show (4 * i + j).toNat = 4 * i.toNat + 2 by omega]
        · rw [if_neg j2, ← m3, show (4 * i + j).toNat = 4 * i.toNat + 3 by omega]
  · refine ⟨?_, fun e0 => absurd e0 er⟩
    rcases hn er with ⟨g1, g2⟩ | ⟨g1, g2, g3⟩
    · rw [if_neg (by omega)] at k0
      omega
    · rw [if_pos (by omega), if_neg (by omega)] at k0
      omega
end TK
