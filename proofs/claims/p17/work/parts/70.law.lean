/-! the law's helpers -/
theorem gz_if {s A g : Nat → Int} {r : Int} {k : Nat} (h : s k = (if r = 0 then A else g) k) : s k = if r = 0 then A k else g k := by
  by_cases e : r = 0
  · rw [if_pos e] at h ⊢
    exact h
  · rw [if_neg e] at h ⊢
    exact h
theorem gz_is {s A g : Nat → Int} {r : Int} {k : Nat} (h : s k = (if r = 0 then A else g) k) (e : A k = g k) : s k = g k := by
  by_cases e0 : r = 0
  · rw [if_pos e0] at h
    exact h.trans e
  · rw [if_neg e0] at h
    exact h
def meP (r ag0 ag1 ag2 ag3 ag4 dp : Int) : Prop := (r = 0 ∧ ((0 ≤ ag0 ∧ ag0 ≤ 65535) ∧ (0 ≤ ag1 ∧ ag1 ≤ 65535) ∧ (0 ≤ ag2 ∧ ag2 ≤ 65535) ∧ (0 ≤ ag3 ∧ ag3 ≤ 65535) ∧ (0 ≤ ag4 ∧ ag4 ≤ 65535) ∧ ag0 ≤ mi_shl 1 dp - 1)) ∨ (r = 1 ∧ ¬ ((0 ≤ ag0 ∧ ag0 ≤ 65535) ∧ (0 ≤ ag1 ∧ ag1 ≤ 65535) ∧ (0 ≤ ag2 ∧ ag2 ≤ 65535) ∧ (0 ≤ ag3 ∧ ag3 ≤ 65535) ∧ (0 ≤ ag4 ∧ ag4 ≤ 65535) ∧ ag0 ≤ mi_shl 1 dp - 1))
def dwP (r ag0 ag1 ag2 ag3 ag4 ag5 ag6 ag7 w hh pl dp : Int) : Prop := (r = 1 ∧ ¬ (0 ≤ ag0 ∧ ag0 < pl ∧ 0 < ag3 ∧ 0 < ag4 ∧ 0 ≤ ag1 ∧ 0 ≤ ag2 ∧ ag1 < w ∧ ag2 < hh ∧ ag3 ≤ w - ag1 ∧ ag4 ≤ hh - ag2)) ∨ (r = 2 ∧ (0 ≤ ag0 ∧ ag0 < pl ∧ 0 < ag3 ∧ 0 < ag4 ∧ 0 ≤ ag1 ∧ 0 ≤ ag2 ∧ ag1 < w ∧ ag2 < hh ∧ ag3 ≤ w - ag1 ∧ ag4 ≤ hh - ag2) ∧ ¬ ((0 ≤ ag5 ∧ ag5 ≤ mi_shl 1 dp - 1) ∧ (0 ≤ ag6 ∧ ag6 ≤ mi_shl 1 dp - 1) ∧ (0 ≤ ag7 ∧ ag7 ≤ 65535))) ∨ (r = 0 ∧ (0 ≤ ag0 ∧ ag0 < pl ∧ 0 < ag3 ∧ 0 < ag4 ∧ 0 ≤ ag1 ∧ 0 ≤ ag2 ∧ ag1 < w ∧ ag2 < hh ∧ ag3 ≤ w - ag1 ∧ ag4 ≤ hh - ag2) ∧ ((0 ≤ ag5 ∧ ag5 ≤ mi_shl 1 dp - 1) ∧ (0 ≤ ag6 ∧ ag6 ≤ mi_shl 1 dp - 1) ∧ (0 ≤ ag7 ∧ ag7 ≤ 65535)))
def tiS (s : Nat → Int) (p : Nat → Nat) (c : Nat → Nat → Int) : Prop := ∃ E, cv E (s 100) (s 101) (s 102) (c (p 104)) ∧ cr E (s 100) (s 101) (s 102) (c 31)
theorem tiS_fk {s s1 : Nat → Int} {p p1 : Nat → Nat} {c c1 : Nat → Nat → Int} {n1 : Nat} {K : List Nat} (h : tiS s p c) (f : fk p c n1 p1 c1 K) (hk : 104 ∉ K ∧ 31 ∉ K) (e0 : s1 100 = s 100) (e1 : s1 101 = s 101) (e2 : s1 102 = s 102) : tiS s1 p1 c1 := by
  obtain ⟨E, h1, h2⟩ := h
  refine ⟨E, ?_, ?_⟩
  · rw [e0, e1, e2, fk_k (k := 104) f ⟨by decide, hk.1, rfl⟩]
    exact h1
  · rw [e0, e1, e2, fk_c (k := 31) f ⟨by decide, hk.2, rfl⟩]
    exact h2
theorem tiS_cn {s s2 : Nat → Int} {p p1 : Nat → Nat} {c c1 c2 : Nat → Nat → Int} {n1 : Nat} {E : Int → Int → Int → Int} {r wi hi pl dp : Int} (hE : cv E (s 100) (s 101) (s 102) (c (p 104))) (hr : cr E (s 100) (s 101) (s 102) (c 31)) (F : fk p c n1 p1 c1 [3, 104]) (h : (r = 0 ∧ ((1 ≤ wi ∧ wi ≤ 64) ∧ (1 ≤ hi ∧ hi ≤ 64) ∧ (pl = 1 ∨ pl = 3) ∧ (2 ≤ dp ∧ dp ≤ 16))) ∨ (r = 1 ∧ ¬ ((1 ≤ wi ∧ wi ≤ 64) ∧ (1 ≤ hi ∧ hi ≤ 64) ∧ (pl = 1 ∨ pl = 3) ∧ (2 ≤ dp ∧ dp ≤ 16)))) (h0 : r = 0 → ∀ i : Nat, (i : Int) < wi * hi * pl → c1 (p1 104) i = 0) (h1 : r ≠ 0 → fk p c n1 p1 c1 []) (g : frc c1 c2 [31, 32]) (k : if ((1 ≤ wi ∧ wi ≤ 64) ∧ (1 ≤ hi ∧ hi ≤ 64) ∧ (pl = 1 ∨ pl = 3) ∧ (2 ≤ dp ∧ dp ≤ 16)) then (∀ i : Nat, (i : Int) < 12288 → c2 31 i = 0) else c2 31 = c1 31) (t0 : s2 100 = if r = 0 then wi else s 100) (t1 : s2 101 = if r = 0 then hi else s 101) (t2 : s2 102 = if r = 0 then pl else s 102) : tiS s2 p1 c2 := by
  have F2 := fk_rc F.1 g (by decide)
  rcases h with ⟨er, hc⟩ | ⟨er, hc⟩
  · rw [if_pos er] at t0 t1 t2
    rw [if_pos hc] at k
    refine ⟨fun _ _ _ => 0, ?_, ?_⟩
    · intro a y x ha hy hx
      rw [fk_k (k := 104) F2 (by decide)]
      rw [t0, t1, t2] at *
      have hb := ix_bd (a := a) (h := hi) (y := y) (w := wi) (x := x) (pl := pl) ha.1 ha.2 hy.1 hy.2 hx.1 hx.2 (by omega) (by omega) (by omega)
      exact h0 er _ (by omega)
    · intro a y x ha hy hx
      rw [t0] at hx
      rw [t1] at hy
      rw [t2] at ha
      exact k _ (by omega)
  · have er2 : ¬ r = 0 := by omega
    rw [if_neg er2] at t0 t1 t2
    rw [if_neg hc] at k
    refine ⟨E, ?_, ?_⟩
    · rw [t0, t1, t2, fk_k (k := 104) F2 (by decide), fk_k (k := 104) (h1 er2) (by decide)]
      exact hE
    · rw [t0, t1, t2, k, fk_c (k := 31) F (by decide)]
      exact hr
theorem tiS_dr {s s1 s2 : Nat → Int} {p p1 : Nat → Nat} {c c1 c2 : Nat → Nat → Int} {n1 : Nat} {E : Int → Int → Int → Int} {r a x y wide high v u mask : Int} (hE : cv E (s 100) (s 101) (s 102) (c (p 104))) (hr : cr E (s 100) (s 101) (s 102) (c 31)) (F : fk p c n1 p1 c1 [104]) (h0 : r = 0 → cv (dE E a x y wide high v u mask (mi_shl 1 (s 103) - 1) high 0) (s 100) (s 101) (s 102) (c1 (p1 104))) (h1 : r ≠ 0 → fk p c n1 p1 c1 []) (g : frc c1 c2 [31]) (k0 : s2 3000 = 0 → cr (dE E a x y wide high v u mask (mi_shl 1 (s1 3004) - 1) high 0) (s1 3001) (s1 3002) (s1 3003) (c2 31)) (k1 : s2 3000 ≠ 0 → c2 31 = c1 31) (e : s2 3000 = r) (e1 : s1 3001 = s 100) (e2 : s1 3002 = s 101) (e3 : s1 3003 = s 102) (e4 : s1 3004 = s 103) (t0 : s2 100 = s 100) (t1 : s2 101 = s 101) (t2 : s2 102 = s 102) : tiS s2 p1 c2 := by
  have F2 := fk_rc F.1 g (by decide)
  rw [e] at k0 k1
  by_cases hr0 : r = 0
  · have k2 := k0 hr0
    rw [e1, e2, e3, e4] at k2
    refine ⟨dE E a x y wide high v u mask (mi_shl 1 (s 103) - 1) high 0, ?_, ?_⟩
    · rw [t0, t1, t2, fk_k (k := 104) F2 (by decide)]
      exact h0 hr0
    · rw [t0, t1, t2]
      exact k2
  · refine ⟨E, ?_, ?_⟩
    · rw [t0, t1, t2, fk_k (k := 104) F2 (by decide), fk_k (k := 104) (h1 hr0) (by decide)]
      exact hE
    · rw [t0, t1, t2, k1 hr0, fk_c (k := 31) F (by decide)]
      exact hr
theorem dw_eq {r k a x y wide high v u mask w hh pl dp w2 h2 p2 d2 : Int} (h : dwP r a x y wide high v u mask w hh pl dp) (e : k = if (0 ≤ a ∧ a < p2 ∧ 0 < wide ∧ 0 < high ∧ 0 ≤ x ∧ 0 ≤ y ∧ x < w2 ∧ y < h2 ∧ wide ≤ w2 - x ∧ high ≤ h2 - y) then (if ((0 ≤ v ∧ v ≤ mi_shl 1 d2 - 1) ∧ (0 ≤ u ∧ u ≤ mi_shl 1 d2 - 1) ∧ (0 ≤ mask ∧ mask ≤ 65535)) then 0 else 2) else 1) (e1 : w2 = w) (e2 : h2 = hh) (e3 : p2 = pl) (e4 : d2 = dp) : k = r := by
  subst e1 e2 e3 e4
  rcases h with ⟨hr, hk⟩ | ⟨hr, hk, hg⟩ | ⟨hr, hk, hg⟩
  · rw [if_neg hk] at e
    rw [e, hr]
  · rw [if_pos hk, if_neg hg] at e
    rw [e, hr]
  · rw [if_pos hk, if_pos hg] at e
    rw [e, hr]
def atP (r a x y w h pl o v : Int) : Prop := (r = 0 ∧ ((0 ≤ a ∧ a < pl) ∧ (0 ≤ x ∧ x < w) ∧ (0 ≤ y ∧ y < h)) ∧ o = v) ∨ (r = 1 ∧ ¬ ((0 ≤ a ∧ a < pl) ∧ (0 ≤ x ∧ x < w) ∧ (0 ≤ y ∧ y < h)))
theorem at_q {s : Nat → Int} {p p1 : Nat → Nat} {c c1 : Nat → Nat → Int} {n1 : Nat} {E : Int → Int → Int → Int} {r k b a x y w2 h2 p2 : Int} (hE : cv E (s 100) (s 101) (s 102) (c (p 104))) (hr : cr E (s 100) (s 101) (s 102) (c 31)) (F : fk p c n1 p1 c1 [47]) (h : atP r a x y (s 100) (s 101) (s 102) (c1 47 0) (c (p 104) ((a * s 101 + y) * s 100 + x).toNat)) (k0 : k = if (0 ≤ a ∧ a < p2 ∧ 0 ≤ x ∧ x < w2 ∧ 0 ≤ y ∧ y < h2) then 0 else 1) (k1 : b = if (0 ≤ a ∧ a < p2 ∧ 0 ≤ x ∧ x < w2 ∧ 0 ≤ y ∧ y < h2) then c1 31 (4096 * a + 64 * y + x).toNat else 0) (e1 : w2 = s 100) (e2 : h2 = s 101) (e3 : p2 = s 102) : k = r ∧ (r = 0 → c1 47 0 = b) := by
  subst e1 e2 e3
  rcases h with ⟨er, hc, ho⟩ | ⟨er, hc⟩
  · rw [if_pos (by omega)] at k0 k1
    refine ⟨by rw [k0, er], fun _ => ?_⟩
    rw [ho, k1, fk_c (k := 31) F (by decide), hE a y x hc.1 hc.2.2 hc.2.1, hr a y x hc.1 hc.2.2 hc.2.1]
  · rw [if_neg (by omega)] at k0
    exact ⟨by rw [k0, er], fun h0 => absurd h0 (by omega)⟩
theorem mi_lcmp_eq {x y : Int} (hx : -9223372036854775808 ≤ x ∧ x ≤ 9223372036854775807) (hy : -9223372036854775808 ≤ y ∧ y ≤ 9223372036854775807) : (mi_lcmp x y = 0 ↔ x = y) ∧ (-1 ≤ mi_lcmp x y ∧ mi_lcmp x y ≤ 1) := by
  have ex : (Int64.ofInt x).toInt = x := Int64.toInt_ofInt_of_le (by omega) (by omega)
  have ey : (Int64.ofInt y).toInt = y := Int64.toInt_ofInt_of_le (by omega) (by omega)
  unfold mi_lcmp lg_cmp
  split
  · rename_i h
    have h := Int64.lt_iff_toInt_lt.mp h
    rw [ex, ey] at h
    exact ⟨⟨fun q => absurd q (by decide), fun q => by omega⟩, by decide⟩
  · split
    · rename_i h2
      have h2 := congrArg Int64.toInt h2
      rw [ex, ey] at h2
      exact ⟨⟨fun q => h2, fun q => rfl⟩, by decide⟩
    · rename_i h2
      have h2 : x ≠ y := fun q => h2 (by rw [q])
      exact ⟨⟨fun q => absurd q (by decide), fun q => absurd q h2⟩, by decide⟩
theorem tt_llb {Zi : Nat → Option (Nat × (Nat → Int))} {d M pc len : Nat} {ls : List (Option mi_V)} {st : List mi_V} {n : Nat} {D : Nat → Nat × Nat} {s : Nat → Int} {p : Nat → Nat} {c : Nat → Nat → Int} {Q : mi_Rs → mi_H → Prop} {a m : Nat} {i : Int} (hk : mm_kT M pc = some (.laload, len)) (ha : mi_arr n D a = some (2, m)) (hi : 0 ≤ i ∧ i < m ∧ i ≤ 2147483647) (hC : bC D c) (hb : bC_lo D a = -2147483648 ∧ bC_hi D a = 2147483647) (g : ∀ v, (-2147483648 ≤ v ∧ v ≤ 2147483647) → c a i.toNat = v → tt Zi d M (pc + 1, ls, .inr (.inr v) :: st, n, D, s, p, c) Q) : tt Zi d M (pc, ls, .inl i :: .inr (.inl a) :: st, n, D, s, p, c) Q := by
  have h := hC a i.toNat
  rw [hb.1, hb.2] at h
  refine tt_st (S' := (pc + 1, ls, .inr (.inr (c a i.toNat)) :: st, n, D, s, p, c)) ?_ (g _ h rfl)
  unfold mi_act
  simp only [hk, mi_aLld, ha, if_pos hi]
def chP (r i y z : Int) : Prop := (r = 0 ∧ (0 ≤ i ∧ i < z) ∧ (0 ≤ y ∧ y ≤ 255)) ∨ (r = 2 ∧ (0 ≤ i ∧ i < z) ∧ ¬ (0 ≤ y ∧ y ≤ 255)) ∨ (r = 1 ∧ ¬ (0 ≤ i ∧ i < z))
def tqC (c : Nat → Nat → Int) : Prop := ∀ i : Nat, i < 5 → c 3 i = c 32 i
def tqW (s : Nat → Int) : Prop := s 1601 = 0 ∧ s 1602 = 8
def tqP (s : Nat → Int) (p : Nat → Nat) (c : Nat → Nat → Int) : Prop := s 401 = s 3016 ∧ ∀ i : Nat, (i : Int) < s 401 → c (p 400) i = c 35 i
def tqB (s : Nat → Int) (p : Nat → Nat) (c : Nat → Nat → Int) : Prop := ∀ i : Nat, (i : Int) < s 601 → c (p 600) i = c 34 i
def tqT (s : Nat → Int) : Prop := s 601 = s 3014
def tiQ (s : Nat → Int) (p : Nat → Nat) (c : Nat → Nat → Int) : Prop := tqC c ∧ tqW s ∧ tqP s p c ∧ tqT s ∧ tqB s p c ∧ tqU s p c ∧ tqK p c
section TQ
variable {s s1 s2 : Nat → Int} {p p1 : Nat → Nat} {c c1 c2 : Nat → Nat → Int} {n1 : Nat} {K A L L2 : List Nat} {r co t b o i y z1 z2 : Int}
theorem tqC_f (h : tqC c) (F : fk p c n1 p1 c1 K) (G : fk p1 c1 n1 p1 c2 A) (hk : (3 ∉ K ∧ 32 ∉ K) ∧ 3 ∉ A ∧ 32 ∉ A) : tqC c2 := fun i hi => by
  rw [fk_c (k := 3) G ⟨by decide, hk.2.1, rfl⟩, fk_c (k := 3) F ⟨by decide, hk.1.1, rfl⟩, fk_c (k := 32) G ⟨by decide, hk.2.2, rfl⟩, fk_c (k := 32) F ⟨by decide, hk.1.2, rfl⟩]
  exact h i hi
theorem tqW_f (h : tqW s) (e : fr s s1 L) (hl : 1601 ∉ L ∧ 1602 ∉ L) : tqW s1 := ⟨(e 1601 hl.1).trans h.1, (e 1602 hl.2).trans h.2⟩
theorem tqT_f (h : tqT s) (e : fr s s1 L) (hl : 601 ∉ L ∧ 3014 ∉ L) : tqT s1 := (e 601 hl.1).trans (Eq.trans h (e 3014 hl.2).symm)
theorem tqN (e : fr s s1 L) (hl : 3014 ∉ L) : s1 3014 = s 3014 := e 3014 hl
theorem tqZ (e : fr s s1 L) (hl : 3016 ∉ L) : s1 3016 = s 3016 := e 3016 hl
theorem tqP_f (h : tqP s p c) (F : fk p c n1 p1 c1 K) (G : fk p1 c1 n1 p1 c2 A) (hk : (400 ∉ K ∧ 35 ∉ K) ∧ 400 ∉ A ∧ 35 ∉ A) (e : fr s s1 L) (hl : 401 ∉ L ∧ 3016 ∉ L) (f : fr s1 s2 L2) (hl2 : 401 ∉ L2 ∧ 3016 ∉ L2) : tqP s2 p1 c2 := by
  obtain ⟨h1, h2⟩ := h
  have a1 : s2 401 = s 401 := (f 401 hl2.1).trans (e 401 hl.1)
  have a2 : s2 3016 = s 3016 := (f 3016 hl2.2).trans (e 3016 hl.2)
  refine ⟨by rw [a1, a2, h1], fun i hi => ?_⟩
  rw [a1] at hi
  rw [fk_k (k := 400) G ⟨by decide, hk.2.1, rfl⟩, fk_k (k := 400) F ⟨by decide, hk.1.1, rfl⟩, fk_c (k := 35) G ⟨by decide, hk.2.2, rfl⟩, fk_c (k := 35) F ⟨by decide, hk.1.2, rfl⟩]
  exact h2 i hi
theorem tqC_cn {wi hi pl dp : Int} (h : tqC c) (F : fk p c n1 p1 c1 [3, 104]) (hd : (r = 0 ∧ ((1 ≤ wi ∧ wi ≤ 64) ∧ (1 ≤ hi ∧ hi ≤ 64) ∧ (pl = 1 ∨ pl = 3) ∧ (2 ≤ dp ∧ dp ≤ 16))) ∨ (r = 1 ∧ ¬ ((1 ≤ wi ∧ wi ≤ 64) ∧ (1 ≤ hi ∧ hi ≤ 64) ∧ (pl = 1 ∨ pl = 3) ∧ (2 ≤ dp ∧ dp ≤ 16)))) (h2 : r = 0 → ∀ i : Nat, i < 5 → c1 3 i = 0) (h3 : r ≠ 0 → fk p c n1 p1 c1 []) (g : frc c1 c2 [31, 32]) (k : if ((1 ≤ wi ∧ wi ≤ 64) ∧ (1 ≤ hi ∧ hi ≤ 64) ∧ (pl = 1 ∨ pl = 3) ∧ (2 ≤ dp ∧ dp ≤ 16)) then (∀ i : Nat, (i : Int) < 5 → c2 32 i = 0) else c2 32 = c1 32) : tqC c2 := by
  intro i hi5
  rw [g 3 (by decide)]
  rcases hd with ⟨er, hc⟩ | ⟨er, hc⟩
  · rw [if_pos hc] at k
    rw [h2 er i hi5, k i (by omega)]
  · rw [if_neg hc] at k
    rw [k, fk_c (k := 3) (h3 (by omega)) (by decide), fk_c (k := 32) (h3 (by omega)) (by decide)]
    exact h i hi5
theorem tqC_me {a1 a2 a3 a4 a5 dp d2 : Int} (h : tqC c) (F : fk p c n1 p1 c1 [3]) (hm : meP r a1 a2 a3 a4 a5 dp) (h1 : r = 0 → c1 3 0 = a1 ∧ c1 3 1 = a2 ∧ c1 3 2 = a3 ∧ c1 3 3 = a4 ∧ c1 3 4 = a5) (h2 : r ≠ 0 → fk p c n1 p1 c1 []) (g : frc c1 c2 [32]) (ed : d2 = dp) (k : if ((0 ≤ a1 ∧ a1 ≤ 65535) ∧ (0 ≤ a2 ∧ a2 ≤ 65535) ∧ (0 ≤ a3 ∧ a3 ≤ 65535) ∧ (0 ≤ a4 ∧ a4 ≤ 65535) ∧ (0 ≤ a5 ∧ a5 ≤ 65535) ∧ a1 ≤ mi_shl 1 d2 - 1) then (c2 32 0 = a1 ∧ c2 32 1 = a2 ∧ c2 32 2 = a3 ∧ c2 32 3 = a4 ∧ c2 32 4 = a5) else c2 32 = c1 32) : tqC c2 := by
  subst ed
  intro i hi5
  rw [g 3 (by decide)]
  rcases hm with ⟨er, hc⟩ | ⟨er, hc⟩
  · rw [if_pos hc] at k
    obtain ⟨k0, k1, k2, k3, k4⟩ := k
    obtain ⟨j0, j1, j2, j3, j4⟩ := h1 er
    have e : i = 0 ∨ i = 1 ∨ i = 2 ∨ i = 3 ∨ i = 4 := by omega
    rcases e with rfl | rfl | rfl | rfl | rfl
    · rw [j0, k0]
    · rw [j1, k1]
    · rw [j2, k2]
    · rw [j3, k3]
    · rw [j4, k4]
  · rw [if_neg hc] at k
    rw [k, fk_c (k := 3) (h2 (by omega)) (by decide), fk_c (k := 32) (h2 (by omega)) (by decide)]
    exact h i hi5
theorem pk_q {CC X Y : Prop} {V : WT} {f g : Nat → Int} (hr : r = 0 ∨ r = 1) (h0 : r = 0 → CC) (h1 : r ≠ 0 → ¬ CC) (h2 : r = 0 → o = z1) (h3 : r = 0 → wrl V z1 0 8 f) (kp : (co = 0 ∧ CC ∧ wrb V z2 g ∧ b = z2) ∨ (co = 1 ∧ ¬ CC ∧ X ∧ Y)) : co = r ∧ (r = 0 → o = b) := by
  rcases kp with ⟨k0, k1, k2, k3⟩ | ⟨k0, k1, _⟩
  · have er : r = 0 := by
      rcases hr with hr | hr
      · exact hr
      · exact absurd k1 (h1 (by omega))
    refine ⟨by omega, fun _ => ?_⟩
    rw [h2 er, k3, ← (h3 er).1, ← k2.1]
  · have er : r ≠ 0 := fun e => k1 (h0 e)
    exact ⟨by omega, fun e => absurd e er⟩
theorem tqP_pk {CC : Prop} {V : WT} (h : tqP s p c) (F : fk p c n1 p1 c1 K) (G : fk p1 c1 n1 p1 c2 A) (e : fr s s1 L) (hl : 400 ∉ A ∧ 3016 ∉ L) (h0 : r = 0 → CC) (h1 : r ≠ 0 → ¬ CC) (h3 : r = 0 → wrl V (s1 401) 0 8 (c1 (p1 400))) (h5 : r ≠ 0 → s1 401 = s 401 ∧ s1 1601 = s 1601 ∧ s1 1602 = s 1602) (h7 : r ≠ 0 → fk p c n1 p1 c1 []) (kp : (co = 0 ∧ CC ∧ wrb V (s2 3016) (c2 35) ∧ b = s2 3016) ∨ (co = 1 ∧ ¬ CC ∧ s2 3016 = s1 3016 ∧ c2 35 = c1 35)) (f : fr s1 s2 L2) (hl2 : 401 ∉ L2) : tqP s2 p1 c2 := by
  have a1 : s2 401 = s1 401 := f 401 hl2
  have a4 : c2 (p1 400) = c1 (p1 400) := fk_k (k := 400) G ⟨by decide, hl.1, rfl⟩
  rcases kp with ⟨k0, k1, k2, k3⟩ | ⟨k0, k1, k2, k3⟩
  · by_cases er : r = 0
    · obtain ⟨v1, _, _, v4⟩ := h3 er
      refine ⟨by rw [a1, ← v1, k2.1], fun i hi => ?_⟩
      rw [a1] at hi
      rw [a4, v4 i hi, k2.2 i (by rw [← k2.1, v1]; exact hi)]
    · exact absurd k1 (h1 er)
  · have er : r ≠ 0 := fun e0 => k1 (h0 e0)
    refine ⟨by rw [a1, (h5 er).1, h.1, k2, e 3016 hl.2], fun i hi => ?_⟩
    rw [a1, (h5 er).1] at hi
    rw [a4, fk_k (k := 400) (h7 er) (by decide), k3, fk_c (k := 35) (h7 er) (by decide)]
    exact h.2 i hi
theorem fd_q (h : tqT s) (h0 : r = 0 → s 601 + 20 ≤ 32768 ∧ s1 601 = s 601 + 20 ∧ o = s 601 + 20) (h1 : r ≠ 0 → r = 1 ∧ ¬ (s 601 + 20 ≤ 32768) ∧ s1 601 = s 601) (e : s1 3014 = s 3014) (k0 : co = if s1 3014 + 20 ≤ 32768 then 0 else 1) (k1 : t = if s1 3014 + 20 ≤ 32768 then s1 3014 + 20 else s1 3014) (k2 : b = if s1 3014 + 20 ≤ 32768 then s1 3014 + 20 else 0) : co = r ∧ (r = 0 → o = b) ∧ s1 601 = t := by
  unfold tqT at h
  by_cases er : r = 0
  · have g0 := h0 er
    rw [if_pos (by omega)] at k0 k1 k2
    omega
  · have g1 := h1 er
    rw [if_neg (by omega)] at k0 k1 k2
    omega
theorem en_q (h : tqT s) (h0 : r = 0 → (0 ≤ i ∧ i ≤ s 601) ∧ s1 601 = i) (h1 : r ≠ 0 → r = 1 ∧ ¬ (0 ≤ i ∧ i ≤ s 601) ∧ s1 601 = s 601) (e : s1 3014 = s 3014) (k0 : co = if 0 ≤ i ∧ i ≤ s1 3014 then 0 else 1) (k1 : t = if 0 ≤ i ∧ i ≤ s1 3014 then i else s1 3014) : co = r ∧ s1 601 = t := by
  unfold tqT at h
  by_cases er : r = 0
  · have g0 := h0 er
    rw [if_pos (by omega)] at k0 k1
    omega
  · have g1 := h1 er
    rw [if_neg (by omega)] at k0 k1
    omega
theorem tu_q (h : tqT s) (hz : s 401 = s 3016) (h0 : r = 0 → s 401 ≤ 32768 ∧ s1 601 = s 401 ∧ o = s 401) (h1 : r ≠ 0 → r = 1 ∧ ¬ (s 401 ≤ 32768) ∧ s1 601 = s 601) (e : s1 3014 = s 3014) (ez : s1 3016 = s 3016) (k0 : co = if s1 3016 ≤ 32768 then 0 else 1) (k1 : t = if s1 3016 ≤ 32768 then s1 3016 else s1 3014) (k2 : b = if s1 3016 ≤ 32768 then s1 3016 else 0) : co = r ∧ (r = 0 → o = b) ∧ s1 601 = t := by
  unfold tqT at h
  by_cases er : r = 0
  · have g0 := h0 er
    rw [if_pos (by omega)] at k0 k1 k2
    omega
  · have g1 := h1 er
    rw [if_neg (by omega)] at k0 k1 k2
    omega
theorem ch_q (h : tqT s) (h0 : chP r i y (s 601)) (e : s1 3014 = s 3014) (k0 : co = if 0 ≤ i ∧ i < s1 3014 then (if 0 ≤ y ∧ y ≤ 255 then 0 else 2) else 1) : co = r := by
  unfold tqT at h
  rcases h0 with ⟨er, g1, g2⟩ | ⟨er, g1, g2⟩ | ⟨er, g1⟩
  · rw [if_pos (by omega), if_pos g2] at k0
    omega
  · rw [if_pos (by omega), if_neg g2] at k0
    omega
  · rw [if_neg (by omega)] at k0
    omega
theorem ou_q (h : tqP s p c) (F : fk p c n1 p1 c1 K) (hK : 35 ∉ K) (e : fr s s1 L) (hl : 3016 ∉ L) (h0 : r = 0 → (0 ≤ i ∧ i < s 401) ∧ o = mi_and (c (p 400) i.toNat) 255) (h1 : r ≠ 0 → r = 1 ∧ ¬ (0 ≤ i ∧ i < s 401)) (k0 : co = if 0 ≤ i ∧ i < s1 3016 then 0 else 1) (k1 : b = if 0 ≤ i ∧ i < s1 3016 then mi_and (c1 35 i.toNat) 255 else 0) : co = r ∧ (r = 0 → o = b) := by
  have ez := e 3016 hl
  have hz := h.1
  by_cases er : r = 0
  · have g0 := h0 er
    rw [if_pos (by omega)] at k0 k1
    refine ⟨by omega, fun _ => ?_⟩
    rw [g0.2, k1, fk_c (k := 35) F ⟨by decide, hK, rfl⟩, h.2 i.toNat (by omega)]
  · have g1 := h1 er
    rw [if_neg (by omega)] at k0
    exact ⟨by omega, fun e0 => absurd e0 er⟩
theorem sz_q (h : tqP s p c) (e : fr s s1 L) (hl : 3016 ∉ L) (h0 : r = s 401) (k0 : b = s1 3016) : r = b := by
  rw [h0, k0, h.1, e 3016 hl]
theorem wrt_t (h : tqT s) (hB : tqB s p c) (F : fk p c n1 p1 c1 K) (hK : 34 ∉ K) (e : fr s s1 L) (hl : 3014 ∉ L) : wrt (c (p 600), s 601, 0, 8) (s1 3014) (c1 34) := by
  have e1 := e 3014 hl
  have e2 : s 601 = s 3014 := h
  refine ⟨by show s 601 = s1 3014; rw [e1, e2], fun i hi => ?_⟩
  rw [fk_c (k := 34) F ⟨by decide, hK, rfl⟩]
  exact (hB i (by omega)).symm
theorem tqB_f (h : tqB s p c) (F : fk p c n1 p1 c1 K) (G : fk p1 c1 n1 p1 c2 A) (hk : (600 ∉ K ∧ 34 ∉ K) ∧ 600 ∉ A ∧ 34 ∉ A) (e : fr s s1 L) (hl : 601 ∉ L) (f : fr s1 s2 L2) (hl2 : 601 ∉ L2) : tqB s2 p1 c2 := by
  intro i hi
  rw [f 601 hl2, e 601 hl] at hi
  rw [fk_k (k := 600) G ⟨by decide, hk.2.1, rfl⟩, fk_k (k := 600) F ⟨by decide, hk.1.1, rfl⟩, fk_c (k := 34) G ⟨by decide, hk.2.2, rfl⟩, fk_c (k := 34) F ⟨by decide, hk.1.2, rfl⟩]
  exact h i hi
theorem tqB_en (h : tqB s p c) (F : fk p c n1 p1 c1 K) (G : fk p1 c1 n1 p1 c2 A) (hk : (600 ∉ K ∧ 34 ∉ K) ∧ 600 ∉ A ∧ 34 ∉ A) (h0 : r = 0 → (0 ≤ i ∧ i ≤ s 601) ∧ s1 601 = i) (h1 : r ≠ 0 → r = 1 ∧ ¬ (0 ≤ i ∧ i ≤ s 601) ∧ s1 601 = s 601) (f : fr s1 s2 [3000, 3014]) : tqB s2 p1 c2 := by
  intro j hj
  rw [f 601 (by decide)] at hj
  have hj2 : (j : Int) < s 601 := by
    by_cases er : r = 0
    · have g0 := h0 er
      omega
    · have g1 := h1 er
      omega
  rw [fk_k (k := 600) G ⟨by decide, hk.2.1, rfl⟩, fk_k (k := 600) F ⟨by decide, hk.1.1, rfl⟩, fk_c (k := 34) G ⟨by decide, hk.2.2, rfl⟩, fk_c (k := 34) F ⟨by decide, hk.1.2, rfl⟩]
  exact h j hj2
theorem fd_c (h : tqT s) (h0 : r = 0 → s 601 + 20 ≤ 32768 ∧ s1 601 = s 601 + 20 ∧ o = s 601 + 20) (h1 : r ≠ 0 → r = 1 ∧ ¬ (s 601 + 20 ≤ 32768) ∧ s1 601 = s 601) (e : s1 3014 = s 3014) : (r = 0 → s1 3014 + 20 ≤ 32768) ∧ (r ≠ 0 → ¬ (s1 3014 + 20 ≤ 32768)) := by
  unfold tqT at h
  exact ⟨fun er => by have g := h0 er; omega, fun er => by have g := h1 er; omega⟩
theorem tqB_fd {V : WT} (h : tqB s p c) (G : fk p1 c1 n1 p1 c2 [34]) (hc : (r = 0 → s1 3014 + 20 ≤ 32768) ∧ (r ≠ 0 → ¬ (s1 3014 + 20 ≤ 32768))) (h2 : r = 0 → wrt V (s1 601) (c1 (p1 600))) (h3 : r ≠ 0 → fk p c n1 p1 c1 []) (h5 : r ≠ 0 → s1 601 = s 601) (k3 : s1 3014 + 20 ≤ 32768 → wrt V (s2 3014) (c2 34)) (k4 : ¬ (s1 3014 + 20 ≤ 32768) → c2 34 = c1 34) (f : fr s1 s2 [3000, 3014]) : tqB s2 p1 c2 := by
  intro i hi
  rw [f 601 (by decide)] at hi
  rw [fk_k (k := 600) G (by decide)]
  by_cases er : r = 0
  · have w1 := h2 er
    have w2 := k3 (hc.1 er)
    have e1 : V.2.1 = s1 601 := w1.1
    have e2 : V.2.1 = s2 3014 := w2.1
    rw [w1.2 i hi, w2.2 i (by omega)]
  · rw [h5 er] at hi
    rw [fk_k (k := 600) (h3 er) (by decide), k4 (hc.2 er), fk_c (k := 34) (h3 er) (by decide)]
    exact h i hi
theorem tu_c (h0 : r = 0 → s 401 ≤ 32768 ∧ s1 601 = s 401 ∧ o = s 401) (h1 : r ≠ 0 → r = 1 ∧ ¬ (s 401 ≤ 32768) ∧ s1 601 = s 601) (hz : s 401 = s 3016) (ez : s1 3016 = s 3016) : (r = 0 → s1 3016 ≤ 32768) ∧ (r ≠ 0 → ¬ (s1 3016 ≤ 32768)) := ⟨fun er => by have g := h0 er; omega, fun er => by have g := h1 er; omega⟩
theorem tqB_tu (h : tqB s p c) (hp : tqP s p c) (F : fk p c n1 p1 c1 K) (G : fk p1 c1 n1 p1 c2 [34]) (e : fr s s1 L) (hl : 3016 ∉ L ∧ 35 ∉ K) (hc : (r = 0 → s1 3016 ≤ 32768) ∧ (r ≠ 0 → ¬ (s1 3016 ≤ 32768))) (h2 : r = 0 → ∀ i : Nat, (i : Int) < s 401 → c1 (p1 600) i = c (p 400) i) (h3 : r ≠ 0 → fk p c n1 p1 c1 []) (h4 : r = 0 → s1 601 = s 401) (h5 : r ≠ 0 → s1 601 = s 601) (k3 : s1 3016 ≤ 32768 → ∀ i : Nat, (i : Int) < s1 3016 → c2 34 i = c1 35 i) (k4 : ¬ (s1 3016 ≤ 32768) → c2 34 = c1 34) (f : fr s1 s2 [3000, 3014]) : tqB s2 p1 c2 := by
  have ez := e 3016 hl.1
  have hz := hp.1
  intro i hi
  rw [f 601 (by decide)] at hi
  rw [fk_k (k := 600) G (by decide)]
  by_cases er : r = 0
  · have g4 := h4 er
    rw [h2 er i (by omega), k3 (hc.1 er) i (by omega), fk_c (k := 35) F ⟨by decide, hl.2, rfl⟩]
    exact hp.2 i (by omega)
  · rw [h5 er] at hi
    rw [fk_k (k := 600) (h3 er) (by decide), k4 (hc.2 er), fk_c (k := 34) (h3 er) (by decide)]
    exact h i hi
theorem tqB_ch (h : tqB s p c) (ht : tqT s) (F : fk p c n1 p1 c1 K) (G : fk p1 c1 n1 p1 c2 [34]) (e : fr s s1 L) (hl : (601 ∉ L ∧ 3014 ∉ L) ∧ 34 ∉ K) (h0 : chP r i y (s 601)) (h2 : r = 0 → c1 (p1 600) = ua (c (p 600)) i.toNat (nb (mi_xor (mi_and (c (p 600) i.toNat) 255) y))) (h3 : r ≠ 0 → fk p c n1 p1 c1 []) (k2 : c2 34 = if (0 ≤ i ∧ i < s1 3014) ∧ 0 ≤ y ∧ y ≤ 255 then ua (c1 34) i.toNat (nb (mi_xor (c1 34 i.toNat) y)) else c1 34) (f : fr s1 s2 [3000]) : tqB s2 p1 c2 := by
  have e1 := e 3014 hl.1.2
  have e2 : s 601 = s 3014 := ht
  intro j hj
  rw [f 601 (by decide), e 601 hl.1.1] at hj
  rw [fk_k (k := 600) G (by decide)]
  rcases h0 with ⟨er, g1, g2⟩ | ⟨er, g1, g2⟩ | ⟨er, g1⟩
  · rw [if_pos ⟨by omega, g2⟩] at k2
    rw [h2 er, k2, nb_xor, fk_c (k := 34) F ⟨by decide, hl.2, rfl⟩, h i.toNat (by omega)]
    by_cases ej : j = i.toNat
    · rw [ej, ua_eq, ua_eq]
    · rw [ua_ne ej, ua_ne ej]
      exact h j hj
  · rw [if_neg (fun hh => g2 hh.2)] at k2
    rw [fk_k (k := 600) (h3 (by omega)) (by decide), k2, fk_c (k := 34) (h3 (by omega)) (by decide)]
    exact h j hj
  · rw [if_neg (fun hh => g1 (by omega))] at k2
    rw [fk_k (k := 600) (h3 (by omega)) (by decide), k2, fk_c (k := 34) (h3 (by omega)) (by decide)]
    exact h j hj
theorem ch_w {g : Nat → Int} {q n : Nat} {D : Nat → Nat × Nat} (h : tqB s p c) (ht : tqT s) (hC : bC D c) (hW : wp q g n D p s) (F : fk p c n1 p1 c1 K) (hK : 34 ∉ K) (e1 : s1 3014 = s 3014) (h0 : chP r i y (s 601)) (h1 : r = 0 → o = mi_xor (mi_and (c (p 600) i.toNat) 255) y) (k1 : b = if (0 ≤ i ∧ i < s1 3014) ∧ 0 ≤ y ∧ y ≤ 255 then mi_and (nb (mi_xor (c1 34 i.toNat) y)) 255 else 0) : r = 0 → o = b := by
  intro er
  have e2 : s 601 = s 3014 := ht
  rcases h0 with ⟨_, g1, g2⟩ | ⟨er2, g1, g2⟩ | ⟨er2, g1⟩
  · rw [if_pos ⟨by omega, g2⟩, fk_c (k := 34) F ⟨by decide, hK, rfl⟩, ← h i.toNat (by omega)] at k1
    have hb : -128 ≤ c (p 600) i.toNat ∧ c (p 600) i.toNat ≤ 127 := by
      have h9 := hC (p 600) i.toNat
      rw [hW.r6.2.1, hW.r6.2.2] at h9
      exact h9
    rw [h1 er, k1, ch_v hb g2]
  · omega
  · omega
end TQ
theorem tt_lsb {Zi : Nat → Option (Nat × (Nat → Int))} {d M pc len : Nat} {ls : List (Option mi_V)} {st : List mi_V} {n : Nat} {D : Nat → Nat × Nat} {s : Nat → Int} {p : Nat → Nat} {c : Nat → Nat → Int} {Q : mi_Rs → mi_H → Prop} {a m : Nat} {i x : Int} (hk : mm_kT M pc = some (.lastore, len)) (ha : mi_arr n D a = some (2, m)) (hi : 0 ≤ i ∧ i < m ∧ i ≤ 2147483647) (hC : bC D c) (hb : bC_lo D a = -2147483648 ∧ bC_hi D a = 2147483647) (hx : -2147483648 ≤ x ∧ x ≤ 2147483647) (g : ∀ c1, bC D c1 → c1 = uc c a (ua (c a) i.toNat x) → tt Zi d M (pc + 1, ls, st, n, D, s, p, c1) Q) : tt Zi d M (pc, ls, .inr (.inr x) :: .inl i :: .inr (.inl a) :: st, n, D, s, p, c) Q :=
  tt_lst hk ha hi (g _ (bC_st hC (by rw [hb.1, hb.2]; exact hx)) rfl)
theorem tt_lno {Zi : Nat → Option (Nat × (Nat → Int))} {d M pc len m j : Nat} {ls : List (Option mi_V)} {st : List mi_V} {f : Nat → Int} {H : mi_H} {Q : mi_Rs → mi_H → Prop} (hk : mm_kT M pc = some (.arraylength, len)) (ho : Zi j = some (m, f)) (g : tt Zi d M (pc + 1, ls, .inl (m : Int) :: st, H) Q) : tt Zi d M (pc, ls, .inr (.inl (1000000 + j)) :: st, H) Q := by
  have ha : mi_arr H.1 H.2.1 (1000000 + j) = none := arr_st
  have h2 : mi_old Zi (1000000 + j) = some (m, f) := by
    unfold mi_old
    rw [Nat.ble_eq_true_of_le (by omega)]
    show Zi (1000000 + j - 1000000) = _
    rw [Nat.add_sub_cancel_left]
    exact ho
  refine tt_st (S' := (pc + 1, ls, .inl (m : Int) :: st, H)) ?_ g
  unfold mi_act
  simp only [hk, mi_aLen, ha, h2]
set_option maxRecDepth 100000 in
set_option maxHeartbeats 4000000 in
theorem h_canvas {g : Nat → Int} {Zi : Nat → Option (Nat × (Nat → Int))} {d n q : Nat} {D : Nat → Nat × Nat} {s : Nat → Int} {p : Nat → Nat} {c : Nat → Nat → Int} (hd : 8 ≤ d) (hz : zk Zi) (hq : q + 16 ≤ 400000) (hD : wd n p) (hS : bS s) (hC : bC D c) (hW : wp q g n D p s) (ag0 : Int) (ag1 : Int) (ag2 : Int) (ag3 : Int) (b_ag0 : -2147483648 ≤ ag0 ∧ ag0 ≤ 2147483647) (b_ag1 : -2147483648 ≤ ag1 ∧ ag1 ≤ 2147483647) (b_ag2 : -2147483648 ≤ ag2 ∧ ag2 ≤ 2147483647) (b_ag3 : -2147483648 ≤ ag3 ∧ ag3 ≤ 2147483647) : tt Zi d 92 (0, [some (.inr (.inl 0)), some (.inl ag0), some (.inl ag1), some (.inl ag2), some (.inl ag3), none], [], n, D, s, p, c) (fun R H => (∃ r : Int, R = .inl (some (.inl r)) ∧ (0 ≤ r ∧ r ≤ 2) ∧ cXp (q + 1) (if r = 0 then (us (us (us (us g 100 ag0) 101 ag1) 102 ag2) 103 ag3) else g) s p c [3, 104] [100, 101, 102, 103, 800, 801, 802, 803, 804, 805, 806, 807, 808, 809] H ∧ ((r = 0 ∧ (1 ≤ ag0 ∧ ag0 ≤ 64) ∧ (1 ≤ ag1 ∧ ag1 ≤ 64) ∧ (ag2 = 1 ∨ ag2 = 3) ∧ (2 ≤ ag3 ∧ ag3 ≤ 16)) ∨ (r = 1 ∧ ¬ ((1 ≤ ag0 ∧ ag0 ≤ 64) ∧ (1 ≤ ag1 ∧ ag1 ≤ 64) ∧ (ag2 = 1 ∨ ag2 = 3) ∧ (2 ≤ ag3 ∧ ag3 ≤ 16)))) ∧ (r = 0 → ∀ i : Nat, (i : Int) < ag0 * ag1 * ag2 → H.2.2.2.2 (H.2.2.2.1 104) i = 0) ∧ (r = 0 → ∀ i : Nat, i < 5 → H.2.2.2.2 3 i = 0) ∧ (r ≠ 0 → fk p c H.1 H.2.2.2.1 H.2.2.2.2 []))) := by
  refine tt_k 5 (S' := (6, [some (.inr (.inl 0)), some (.inl ag0), some (.inl ag1), some (.inl ag2), some (.inl ag3), none], [.inl ag3, .inl ag2, .inl ag1, .inl ag0, .inr (.inl 0)], n, D, s, p, c)) rfl ?_
  refine tt_cl (by omega) rfl (e_canvas (Zi := Zi) (q := q) (n := n) (D := D) (s := s) (p := p) (c := c) (by omega) hz (by omega) hD hS hC hW ag0 ag1 ag2 ag3 (by omega) (by omega) (by omega) (by omega)) ?_
  rintro _ ⟨n1, D2, s3, p4, c5⟩ (⟨rfl, hY6, k7, k8, k9⟩ | ⟨rfl, hY10, k11⟩)
  rotate_left
  · skip
    have hS3 : bS s3 := (hY10).1.1
    have hC5 : bC D2 c5 := (hY10).1.2.1
    have hW4 : wp _ _ n1 D2 p4 s3 := (hY10).1.2.2.1
    have FKp4 : fk p c n1 p4 c5 [3, 104] := fk_tr (fk_rf hD) (hY10).1.2.2.2.1 (by decide)
    show tt Zi d 92 (12, [some (.inr (.inl 0)), some (.inl ag0), some (.inl ag1), some (.inl ag2), some (.inl ag3), none], [.inr (.inl (47 + n1))], n1, D2, s3, p4, c5) _
    refine tt_k 2 (S' := (15, [some (.inr (.inl 0)), some (.inl ag0), some (.inl ag1), some (.inl ag2), some (.inl ag3), some (.inr (.inl (47 + n1)))], [.inl 1], n1, D2, s3, p4, c5)) rfl ?_
    exact tt_rti rfl rfl ⟨1, rfl, by omega, (by rw [if_neg (by decide)]; exact ⟨cX_mono (q := (q + 1)) (show cX (q + 1) g s p c [3, 104] [100, 101, 102, 103, 800, 801, 802, 803, 804, 805, 806, 807, 808, 809] (n1, D2, s3, p4, c5) from ⟨hS3, hC5, hW4, FKp4, (show fr s s3 [100, 101, 102, 103, 800, 801, 802, 803, 804, 805, 806, 807, 808, 809] from (fr_wk (hY10).1.2.2.2.2 (by decide)))⟩) (by omega), ((hY10).2)⟩), by exact Or.inr ⟨rfl, k11⟩, by intro h; exact absurd h (by decide), by intro h; exact absurd h (by decide), by intro _; exact (hY10).1.2.2.2.1⟩
  have hS3 : bS s3 := (hY6).1.1
  have hC5 : bC D2 c5 := (hY6).1.2.1
  have hW4 : wp _ _ n1 D2 p4 s3 := (hY6).1.2.2.1
  have FKp4 : fk p c n1 p4 c5 [3, 104] := fk_tr (fk_rf hD) (hY6).1.2.2.2.1 (by decide)
  show tt Zi d 92 (9, [some (.inr (.inl 0)), some (.inl ag0), some (.inl ag1), some (.inl ag2), some (.inl ag3), none], [], n1, D2, s3, p4, c5) _
  refine tt_k 2 (S' := (17, [some (.inr (.inl 0)), some (.inl ag0), some (.inl ag1), some (.inl ag2), some (.inl ag3), none], [.inl 0], n1, D2, s3, p4, c5)) rfl ?_
  exact tt_rti rfl rfl ⟨0, rfl, by omega, (by rw [if_pos rfl]; exact ⟨cX_mono (q := (q + 1)) (show cX (q + 1) (us (us (us (us g 100 ag0) 101 ag1) 102 ag2) 103 ag3) s p c [3, 104] [100, 101, 102, 103, 800, 801, 802, 803, 804, 805, 806, 807, 808, 809] (n1, D2, s3, p4, c5) from ⟨hS3, hC5, hW4, FKp4, (show fr s s3 [100, 101, 102, 103, 800, 801, 802, 803, 804, 805, 806, 807, 808, 809] from (fr_wk (hY6).1.2.2.2.2 (by decide)))⟩) (by omega), ((hY6).2)⟩), by exact Or.inl ⟨rfl, k7⟩, by intro h0; exact k8, by intro h0; exact k9, by intro h; exact absurd rfl h⟩
set_option maxRecDepth 100000 in
set_option maxHeartbeats 4000000 in
theorem h_draw {g : Nat → Int} {Zi : Nat → Option (Nat × (Nat → Int))} {d n q : Nat} {D : Nat → Nat × Nat} {s : Nat → Int} {p : Nat → Nat} {c : Nat → Nat → Int} (hd : 8 ≤ d) (hz : zk Zi) (hq : q + 16 ≤ 400000) (hD : wd n p) (hS : bS s) (hC : bC D c) (hW : wp q g n D p s) (E : Int → Int → Int → Int) (ag0 : Int) (ag1 : Int) (ag2 : Int) (ag3 : Int) (ag4 : Int) (ag5 : Int) (ag6 : Int) (ag7 : Int) (b_ag0 : -2147483648 ≤ ag0 ∧ ag0 ≤ 2147483647) (b_ag1 : -2147483648 ≤ ag1 ∧ ag1 ≤ 2147483647) (b_ag2 : -2147483648 ≤ ag2 ∧ ag2 ≤ 2147483647) (b_ag3 : -2147483648 ≤ ag3 ∧ ag3 ≤ 2147483647) (b_ag4 : -2147483648 ≤ ag4 ∧ ag4 ≤ 2147483647) (b_ag5 : -2147483648 ≤ ag5 ∧ ag5 ≤ 2147483647) (b_ag6 : -2147483648 ≤ ag6 ∧ ag6 ≤ 2147483647) (b_ag7 : -2147483648 ≤ ag7 ∧ ag7 ≤ 2147483647) (hp0 : cv E (s 100) (s 101) (s 102) (c (p 104))) : tt Zi d 94 (0, [some (.inr (.inl 0)), some (.inl ag0), some (.inl ag1), some (.inl ag2), some (.inl ag3), some (.inl ag4), some (.inl ag5), some (.inl ag6), some (.inl ag7), none], [], n, D, s, p, c) (fun R H => (∃ r : Int, R = .inl (some (.inl r)) ∧ (0 ≤ r ∧ r ≤ 2) ∧ cXp (q + 1) g s p c [104] [800, 801, 802, 803, 804, 805, 806, 807, 808, 809] H ∧ (dwP r ag0 ag1 ag2 ag3 ag4 ag5 ag6 ag7 (s 100) (s 101) (s 102) (s 103)) ∧ (r = 0 → cv (dE E ag0 ag1 ag2 ag3 ag4 ag5 ag6 ag7 (mi_shl 1 (s 103) - 1) ag4 0) (s 100) (s 101) (s 102) (H.2.2.2.2 (H.2.2.2.1 104))) ∧ (r ≠ 0 → fk p c H.1 H.2.2.2.1 H.2.2.2.2 []))) := by
  refine tt_k 9 (S' := (14, [some (.inr (.inl 0)), some (.inl ag0), some (.inl ag1), some (.inl ag2), some (.inl ag3), some (.inl ag4), some (.inl ag5), some (.inl ag6), some (.inl ag7), none], [.inl ag7, .inl ag6, .inl ag5, .inl ag4, .inl ag3, .inl ag2, .inl ag1, .inl ag0, .inr (.inl 0)], n, D, s, p, c)) rfl ?_
  refine tt_cl (by omega) rfl (g_draw (Zi := Zi) (q := q) (n := n) (D := D) (s := s) (p := p) (c := c) (by omega) hz (by omega) hD hS hC hW E ag0 ag1 ag2 ag3 ag4 ag5 ag6 ag7 (by omega) (by omega) (by omega) (by omega) (by omega) (by omega) (by omega) (by omega) hp0) ?_
  rintro _ ⟨n1, D2, s3, p4, c5⟩ (⟨rfl, hY6, k7, k8⟩ | ⟨rfl, hY9, k10⟩ | ⟨rfl, hY11, k12⟩)
  rotate_left
  · skip
    have hS3 : bS s3 := (hY9).1.1
    have hC5 : bC D2 c5 := (hY9).1.2.1
    have hW4 : wp _ _ n1 D2 p4 s3 := (hY9).1.2.2.1
    have FKp4 : fk p c n1 p4 c5 [104] := fk_tr (fk_rf hD) (hY9).1.2.2.2.1 (by decide)
    show tt Zi d 94 (20, [some (.inr (.inl 0)), some (.inl ag0), some (.inl ag1), some (.inl ag2), some (.inl ag3), some (.inl ag4), some (.inl ag5), some (.inl ag6), some (.inl ag7), none], [.inr (.inl (47 + n1))], n1, D2, s3, p4, c5) _
    refine tt_k 2 (S' := (23, [some (.inr (.inl 0)), some (.inl ag0), some (.inl ag1), some (.inl ag2), some (.inl ag3), some (.inl ag4), some (.inl ag5), some (.inl ag6), some (.inl ag7), some (.inr (.inl (47 + n1)))], [.inl 1], n1, D2, s3, p4, c5)) rfl ?_
    exact tt_rti rfl rfl ⟨1, rfl, by omega, ⟨cX_mono (q := (q + 1)) (show cX (q + 1) g s p c [104] [800, 801, 802, 803, 804, 805, 806, 807, 808, 809] (n1, D2, s3, p4, c5) from ⟨hS3, hC5, hW4, FKp4, (show fr s s3 [800, 801, 802, 803, 804, 805, 806, 807, 808, 809] from (fr_wk (hY9).1.2.2.2.2 (by decide)))⟩) (by omega), ((hY9).2)⟩, by exact Or.inl ⟨rfl, k10⟩, by intro h; exact absurd h (by decide), by intro _; exact (hY9).1.2.2.2.1⟩
  · skip
    have hS3 : bS s3 := (hY11).1.1
    have hC5 : bC D2 c5 := (hY11).1.2.1
    have hW4 : wp _ _ n1 D2 p4 s3 := (hY11).1.2.2.1
    have FKp4 : fk p c n1 p4 c5 [104] := fk_tr (fk_rf hD) (hY11).1.2.2.2.1 (by decide)
    show tt Zi d 94 (24, [some (.inr (.inl 0)), some (.inl ag0), some (.inl ag1), some (.inl ag2), some (.inl ag3), some (.inl ag4), some (.inl ag5), some (.inl ag6), some (.inl ag7), none], [.inr (.inl (47 + n1))], n1, D2, s3, p4, c5) _
    refine tt_k 2 (S' := (27, [some (.inr (.inl 0)), some (.inl ag0), some (.inl ag1), some (.inl ag2), some (.inl ag3), some (.inl ag4), some (.inl ag5), some (.inl ag6), some (.inl ag7), some (.inr (.inl (47 + n1)))], [.inl 2], n1, D2, s3, p4, c5)) rfl ?_
    exact tt_rti rfl rfl ⟨2, rfl, by omega, ⟨cX_mono (q := (q + 1)) (show cX (q + 1) g s p c [104] [800, 801, 802, 803, 804, 805, 806, 807, 808, 809] (n1, D2, s3, p4, c5) from ⟨hS3, hC5, hW4, FKp4, (show fr s s3 [800, 801, 802, 803, 804, 805, 806, 807, 808, 809] from (fr_wk (hY11).1.2.2.2.2 (by decide)))⟩) (by omega), ((hY11).2)⟩, by exact Or.inr (Or.inl ⟨rfl, k12.1, k12.2⟩), by intro h; exact absurd h (by decide), by intro _; exact (hY11).1.2.2.2.1⟩
  have hS3 : bS s3 := (hY6).1.1
  have hC5 : bC D2 c5 := (hY6).1.2.1
  have hW4 : wp _ _ n1 D2 p4 s3 := (hY6).1.2.2.1
  have FKp4 : fk p c n1 p4 c5 [104] := fk_tr (fk_rf hD) (hY6).1.2.2.2.1 (by decide)
  show tt Zi d 94 (17, [some (.inr (.inl 0)), some (.inl ag0), some (.inl ag1), some (.inl ag2), some (.inl ag3), some (.inl ag4), some (.inl ag5), some (.inl ag6), some (.inl ag7), none], [], n1, D2, s3, p4, c5) _
  refine tt_k 2 (S' := (29, [some (.inr (.inl 0)), some (.inl ag0), some (.inl ag1), some (.inl ag2), some (.inl ag3), some (.inl ag4), some (.inl ag5), some (.inl ag6), some (.inl ag7), none], [.inl 0], n1, D2, s3, p4, c5)) rfl ?_
  exact tt_rti rfl rfl ⟨0, rfl, by omega, ⟨cX_mono (q := (q + 1)) (show cX (q + 1) g s p c [104] [800, 801, 802, 803, 804, 805, 806, 807, 808, 809] (n1, D2, s3, p4, c5) from ⟨hS3, hC5, hW4, FKp4, (show fr s s3 [800, 801, 802, 803, 804, 805, 806, 807, 808, 809] from (fr_wk (hY6).1.2.2.2.2 (by decide)))⟩) (by omega), ((hY6).2)⟩, by exact Or.inr (Or.inr ⟨rfl, k7.1, k7.2⟩), by intro h0; exact k8, by intro h; exact absurd rfl h⟩
set_option maxRecDepth 100000 in
set_option maxHeartbeats 4000000 in
theorem h_at {g : Nat → Int} {Zi : Nat → Option (Nat × (Nat → Int))} {d n q : Nat} {D : Nat → Nat × Nat} {s : Nat → Int} {p : Nat → Nat} {c : Nat → Nat → Int} (hd : 8 ≤ d) (hz : zk Zi) (hq : q + 16 ≤ 400000) (hD : wd n p) (hS : bS s) (hC : bC D c) (hW : wp q g n D p s) (ag0 : Int) (ag1 : Int) (ag2 : Int) (b_ag0 : -2147483648 ≤ ag0 ∧ ag0 ≤ 2147483647) (b_ag1 : -2147483648 ≤ ag1 ∧ ag1 ≤ 2147483647) (b_ag2 : -2147483648 ≤ ag2 ∧ ag2 ≤ 2147483647) : tt Zi d 100 (0, [some (.inr (.inl 0)), some (.inl ag0), some (.inl ag1), some (.inl ag2), some (.inr (.inl 47)), none], [], n, D, s, p, c) (fun R H => (∃ r : Int, R = .inl (some (.inl r)) ∧ (0 ≤ r ∧ r ≤ 2) ∧ cXp (q + 1) g s p c [47] [800, 801, 802, 803, 804, 805, 806, 807, 808, 809] H ∧ (atP r ag0 ag1 ag2 (s 100) (s 101) (s 102) (H.2.2.2.2 47 0) (c (p 104) ((ag0 * s 101 + ag2) * s 100 + ag1).toNat)))) := by
  refine tt_k 6 (S' := (7, [some (.inr (.inl 0)), some (.inl ag0), some (.inl ag1), some (.inl ag2), some (.inr (.inl 47)), none], [.inl ag2, .inl ag1, .inl ag0, .inr (.inl 0), .inl 0, .inr (.inl 47)], n, D, s, p, c)) rfl ?_
  refine tt_cl (by omega) rfl (g_at (Zi := Zi) (q := q) (n := n) (D := D) (s := s) (p := p) (c := c) (by omega) hz (by omega) hD hS hC hW ag0 ag1 ag2 (by omega) (by omega) (by omega)) ?_
  rintro _ ⟨n1, D2, s3, p4, c5⟩ (⟨r7, rfl, b8, hY6, k9, k10⟩ | ⟨rfl, hY11, k12⟩)
  rotate_left
  · skip
    have hS3 : bS s3 := (hY11).1.1
    have hC5 : bC D2 c5 := (hY11).1.2.1
    have hW4 : wp _ _ n1 D2 p4 s3 := (hY11).1.2.2.1
    have FKp4 : fk p c n1 p4 c5 [47] := fk_tr (fk_rf hD) (hY11).1.2.2.2.1 (by decide)
    show tt Zi d 100 (15, [some (.inr (.inl 0)), some (.inl ag0), some (.inl ag1), some (.inl ag2), some (.inr (.inl 47)), none], [.inr (.inl (47 + n1))], n1, D2, s3, p4, c5) _
    refine tt_k 2 (S' := (18, [some (.inr (.inl 0)), some (.inl ag0), some (.inl ag1), some (.inl ag2), some (.inr (.inl 47)), some (.inr (.inl (47 + n1)))], [.inl 1], n1, D2, s3, p4, c5)) rfl ?_
    exact tt_rti rfl rfl ⟨1, rfl, by omega, ⟨cX_mono (q := (q + 1)) (show cX (q + 1) g s p c [47] [800, 801, 802, 803, 804, 805, 806, 807, 808, 809] (n1, D2, s3, p4, c5) from ⟨hS3, hC5, hW4, FKp4, (show fr s s3 [800, 801, 802, 803, 804, 805, 806, 807, 808, 809] from (fr_wk (hY11).1.2.2.2.2 (by decide)))⟩) (by omega), ((hY11).2)⟩, by exact Or.inr ⟨rfl, k12⟩⟩
  have hS3 : bS s3 := (hY6).1.1
  have hC5 : bC D2 c5 := (hY6).1.2.1
  have hW4 : wp _ _ n1 D2 p4 s3 := (hY6).1.2.2.1
  have FKp4 : fk p c n1 p4 c5 [47] := fk_tr (fk_rf hD) (hY6).1.2.2.2.1 (by decide)
  show tt Zi d 100 (10, [some (.inr (.inl 0)), some (.inl ag0), some (.inl ag1), some (.inl ag2), some (.inr (.inl 47)), none], [.inl r7, .inl 0, .inr (.inl 47)], n1, D2, s3, p4, c5) _
  refine tt_i2l (x := r7) rfl (by omega) ?_
  refine tt_lsb (a := 47) (i := 0) (x := r7) (m := 1) rfl rfl (by omega) hC5 ⟨rfl, rfl⟩ (by omega) ?_
  intro c13 hC13 ec13
  show tt Zi d 100 (12, [some (.inr (.inl 0)), some (.inl ag0), some (.inl ag1), some (.inl ag2), some (.inr (.inl 47)), none], [], n1, D2, s3, p4, c13) _
  have FK14 : fk p c n1 p4 c13 [47] := fk_st (k := 47) FKp4 ec13 (by decide) rfl
  refine tt_k 2 (S' := (20, [some (.inr (.inl 0)), some (.inl ag0), some (.inl ag1), some (.inl ag2), some (.inr (.inl 47)), none], [.inl 0], n1, D2, s3, p4, c13)) rfl ?_
  exact tt_rti rfl rfl ⟨0, rfl, by omega, ⟨cX_mono (q := (q + 1)) (show cX (q + 1) g s p c [47] [800, 801, 802, 803, 804, 805, 806, 807, 808, 809] (n1, D2, s3, p4, c13) from ⟨hS3, hC13, hW4, FK14, (show fr s s3 [800, 801, 802, 803, 804, 805, 806, 807, 808, 809] from (fr_wk (hY6).1.2.2.2.2 (by decide)))⟩) (by omega), ((hY6).2)⟩, by show atP _ _ _ _ _ _ _ (c13 47 0) _; rw [ec13, uc_eq]; exact Or.inl ⟨rfl, k9, k10⟩⟩
set_option maxRecDepth 100000 in
set_option maxHeartbeats 4000000 in
theorem h_measures {g : Nat → Int} {Zi : Nat → Option (Nat × (Nat → Int))} {d n q : Nat} {D : Nat → Nat × Nat} {s : Nat → Int} {p : Nat → Nat} {c : Nat → Nat → Int} (hd : 8 ≤ d) (hz : zk Zi) (hq : q + 16 ≤ 400000) (hD : wd n p) (hS : bS s) (hC : bC D c) (hW : wp q g n D p s) (ag0 : Int) (ag1 : Int) (ag2 : Int) (ag3 : Int) (ag4 : Int) (b_ag0 : -2147483648 ≤ ag0 ∧ ag0 ≤ 2147483647) (b_ag1 : -2147483648 ≤ ag1 ∧ ag1 ≤ 2147483647) (b_ag2 : -2147483648 ≤ ag2 ∧ ag2 ≤ 2147483647) (b_ag3 : -2147483648 ≤ ag3 ∧ ag3 ≤ 2147483647) (b_ag4 : -2147483648 ≤ ag4 ∧ ag4 ≤ 2147483647) : tt Zi d 102 (0, [some (.inr (.inl 0)), some (.inl ag0), some (.inl ag1), some (.inl ag2), some (.inl ag3), some (.inl ag4), none], [], n, D, s, p, c) (fun R H => (∃ r : Int, R = .inl (some (.inl r)) ∧ (0 ≤ r ∧ r ≤ 2) ∧ cXp (q + 1) g s p c [3] [800, 801, 802, 803, 804, 805, 806, 807, 808, 809] H ∧ (meP r ag0 ag1 ag2 ag3 ag4 (s 103)) ∧ (r = 0 → (H.2.2.2.2 3 0 = ag0 ∧ H.2.2.2.2 3 1 = ag1 ∧ H.2.2.2.2 3 2 = ag2 ∧ H.2.2.2.2 3 3 = ag3 ∧ H.2.2.2.2 3 4 = ag4)) ∧ (r ≠ 0 → fk p c H.1 H.2.2.2.1 H.2.2.2.2 []))) := by
  refine tt_k 6 (S' := (8, [some (.inr (.inl 0)), some (.inl ag0), some (.inl ag1), some (.inl ag2), some (.inl ag3), some (.inl ag4), none], [.inl ag4, .inl ag3, .inl ag2, .inl ag1, .inl ag0, .inr (.inl 0)], n, D, s, p, c)) rfl ?_
  refine tt_cl (by omega) rfl (e_measures (Zi := Zi) (q := q) (n := n) (D := D) (s := s) (p := p) (c := c) (by omega) hz (by omega) hD hS hC hW ag0 ag1 ag2 ag3 ag4 (by omega) (by omega) (by omega) (by omega) (by omega)) ?_
  rintro _ ⟨n1, D2, s3, p4, c5⟩ (⟨rfl, hY6, k7, k8⟩ | ⟨rfl, hY9, k10⟩)
  rotate_left
  · skip
    have hS3 : bS s3 := (hY9).1.1
    have hC5 : bC D2 c5 := (hY9).1.2.1
    have hW4 : wp _ _ n1 D2 p4 s3 := (hY9).1.2.2.1
    have FKp4 : fk p c n1 p4 c5 [3] := fk_tr (fk_rf hD) (hY9).1.2.2.2.1 (by decide)
    show tt Zi d 102 (14, [some (.inr (.inl 0)), some (.inl ag0), some (.inl ag1), some (.inl ag2), some (.inl ag3), some (.inl ag4), none], [.inr (.inl (47 + n1))], n1, D2, s3, p4, c5) _
    refine tt_k 2 (S' := (17, [some (.inr (.inl 0)), some (.inl ag0), some (.inl ag1), some (.inl ag2), some (.inl ag3), some (.inl ag4), some (.inr (.inl (47 + n1)))], [.inl 1], n1, D2, s3, p4, c5)) rfl ?_
    exact tt_rti rfl rfl ⟨1, rfl, by omega, ⟨cX_mono (q := (q + 1)) (show cX (q + 1) g s p c [3] [800, 801, 802, 803, 804, 805, 806, 807, 808, 809] (n1, D2, s3, p4, c5) from ⟨hS3, hC5, hW4, FKp4, (show fr s s3 [800, 801, 802, 803, 804, 805, 806, 807, 808, 809] from (fr_wk (hY9).1.2.2.2.2 (by decide)))⟩) (by omega), ((hY9).2)⟩, by exact Or.inr ⟨rfl, k10⟩, by intro h; exact absurd h (by decide), by intro _; exact (hY9).1.2.2.2.1⟩
  have hS3 : bS s3 := (hY6).1.1
  have hC5 : bC D2 c5 := (hY6).1.2.1
  have hW4 : wp _ _ n1 D2 p4 s3 := (hY6).1.2.2.1
  have FKp4 : fk p c n1 p4 c5 [3] := fk_tr (fk_rf hD) (hY6).1.2.2.2.1 (by decide)
  show tt Zi d 102 (11, [some (.inr (.inl 0)), some (.inl ag0), some (.inl ag1), some (.inl ag2), some (.inl ag3), some (.inl ag4), none], [], n1, D2, s3, p4, c5) _
  refine tt_k 2 (S' := (19, [some (.inr (.inl 0)), some (.inl ag0), some (.inl ag1), some (.inl ag2), some (.inl ag3), some (.inl ag4), none], [.inl 0], n1, D2, s3, p4, c5)) rfl ?_
  exact tt_rti rfl rfl ⟨0, rfl, by omega, ⟨cX_mono (q := (q + 1)) (show cX (q + 1) g s p c [3] [800, 801, 802, 803, 804, 805, 806, 807, 808, 809] (n1, D2, s3, p4, c5) from ⟨hS3, hC5, hW4, FKp4, (show fr s s3 [800, 801, 802, 803, 804, 805, 806, 807, 808, 809] from (fr_wk (hY6).1.2.2.2.2 (by decide)))⟩) (by omega), ((hY6).2)⟩, by exact Or.inl ⟨rfl, k7⟩, by intro h0; exact k8, by intro h; exact absurd rfl h⟩
set_option maxRecDepth 100000 in
set_option maxHeartbeats 4000000 in
theorem h_pack {g : Nat → Int} {Zi : Nat → Option (Nat × (Nat → Int))} {d n q : Nat} {D : Nat → Nat × Nat} {s : Nat → Int} {p : Nat → Nat} {c : Nat → Nat → Int} (hd : 8 ≤ d) (hz : zk Zi) (hq : q + 16 ≤ 400000) (hD : wd n p) (hS : bS s) (hC : bC D c) (hW : wp q g n D p s) (E : Int → Int → Int → Int) (ag0 : Int) (b_ag0 : -2147483648 ≤ ag0 ∧ ag0 ≤ 2147483647) (hp0 : cv E (s 100) (s 101) (s 102) (c (p 104))) (hp1 : s 1601 = 0 ∧ s 1602 = 8) : tt Zi d 105 (0, [some (.inr (.inl 0)), some (.inl ag0), some (.inr (.inl 47)), none], [], n, D, s, p, c) (fun R H => (∃ r : Int, R = .inl (some (.inl r)) ∧ (0 ≤ r ∧ r ≤ 2) ∧ cXp (q + 1) g s p c [47, 400, 900, 901, 1203, 1204] [401, 800, 801, 802, 803, 804, 805, 806, 807, 808, 809, 902, 1206, 1207, 1208, 1209, 1210, 1211, 1212, 1213, 1214, 1215, 1216, 1601, 1602] H ∧ (r = 0 → ((VM (c 3 0) (c 3 1) (c 3 2) (c 3 3) (c 3 4) (s 103) ag0) ∧ AB E (s 100) (s 101) (s 102) (zMo (c 3 0) (s 103)))) ∧ (r ≠ 0 → ¬ ((VM (c 3 0) (c 3 1) (c 3 2) (c 3 3) (c 3 4) (s 103) ag0) ∧ AB E (s 100) (s 101) (s 102) (zMo (c 3 0) (s 103)))) ∧ (r = 0 → H.2.2.2.2 47 0 = H.2.2.1 401) ∧ (r = 0 → wrl (PK (c 3 0) (c 3 1) (c 3 2) (c 3 3) (c 3 4) (s 100) (s 101) (s 102) (s 103) ag0 E) (H.2.2.1 401) 0 8 (H.2.2.2.2 (H.2.2.2.1 400))) ∧ (r = 0 → H.2.2.1 1601 = 0 ∧ H.2.2.1 1602 = 8) ∧ (r ≠ 0 → H.2.2.1 401 = s 401 ∧ H.2.2.1 1601 = s 1601 ∧ H.2.2.1 1602 = s 1602) ∧ (r = 0 ∨ r = 1) ∧ (r ≠ 0 → fk p c H.1 H.2.2.2.1 H.2.2.2.2 []) ∧ (r = 0 → mrk (pKp (ZM (c 3 0) (c 3 1) (c 3 2) (c 3 3) (c 3 4) (s 103) ag0) (s 100) (s 101) E ag0 (s 102).toNat 0 (pMs (c 3 0) (c 3 1) (c 3 2) (c 3 3) (c 3 4) (pFm (s 100) (s 101) (s 102) (s 103) (pMk W00 216))) (kOf (c (p 900)))) (H.2.2.2.2 (H.2.2.2.1 900))))) := by
  refine tt_k 4 (S' := (4, [some (.inr (.inl 0)), some (.inl ag0), some (.inr (.inl 47)), none], [.inl ag0, .inr (.inl 0), .inl 0, .inr (.inl 47)], n, D, s, p, c)) rfl ?_
  refine tt_cl (by omega) rfl (e_pack (Zi := Zi) (q := q) (n := n) (D := D) (s := s) (p := p) (c := c) (by omega) hz (by omega) hD hS hC hW E ag0 (by omega) hp0 hp1) ?_
  rintro _ ⟨n1, D2, s3, p4, c5⟩ (⟨r7, rfl, b8, hY6, k9, k10, k11, k12, k13⟩ | ⟨rfl, hY14, k15⟩)
  rotate_left
  · skip
    have hS3 : bS s3 := (hY14).1.1
    have hC5 : bC D2 c5 := (hY14).1.2.1
    have hW4 : wp _ _ n1 D2 p4 s3 := (hY14).1.2.2.1
    have FKp4 : fk p c n1 p4 c5 [47, 400, 900, 901, 1203, 1204] := fk_tr (fk_rf hD) (hY14).1.2.2.2.1 (by decide)
    show tt Zi d 105 (12, [some (.inr (.inl 0)), some (.inl ag0), some (.inr (.inl 47)), none], [.inr (.inl (47 + n1))], n1, D2, s3, p4, c5) _
    refine tt_k 2 (S' := (14, [some (.inr (.inl 0)), some (.inl ag0), some (.inr (.inl 47)), some (.inr (.inl (47 + n1)))], [.inl 1], n1, D2, s3, p4, c5)) rfl ?_
    exact tt_rti rfl rfl ⟨1, rfl, by omega, ⟨cX_mono (q := (q + 1)) (show cX (q + 1) g s p c [47, 400, 900, 901, 1203, 1204] [401, 800, 801, 802, 803, 804, 805, 806, 807, 808, 809, 902, 1206, 1207, 1208, 1209, 1210, 1211, 1212, 1213, 1214, 1215, 1216, 1601, 1602] (n1, D2, s3, p4, c5) from ⟨hS3, hC5, hW4, FKp4, (show fr s s3 [401, 800, 801, 802, 803, 804, 805, 806, 807, 808, 809, 902, 1206, 1207, 1208, 1209, 1210, 1211, 1212, 1213, 1214, 1215, 1216, 1601, 1602] from (fr_wk (hY14).1.2.2.2.2 (by decide)))⟩) (by omega), ((hY14).2)⟩, by intro h; exact absurd h (by decide), by intro _; exact k15, by intro h; exact absurd h (by decide), by intro h; exact absurd h (by decide), by intro h; exact absurd h (by decide), by intro _; exact ⟨(hY14).1.2.2.2.2 401 (by decide), (hY14).1.2.2.2.2 1601 (by decide), (hY14).1.2.2.2.2 1602 (by decide)⟩, by omega, by intro _; exact (hY14).1.2.2.2.1, by intro h; exact absurd h (by decide)⟩
  have hS3 : bS s3 := (hY6).1.1
  have hC5 : bC D2 c5 := (hY6).1.2.1
  have hW4 : wp _ _ n1 D2 p4 s3 := (hY6).1.2.2.1
  have FKp4 : fk p c n1 p4 c5 [47, 400, 900, 901, 1203, 1204] := fk_tr (fk_rf hD) (hY6).1.2.2.2.1 (by decide)
  show tt Zi d 105 (7, [some (.inr (.inl 0)), some (.inl ag0), some (.inr (.inl 47)), none], [.inl r7, .inl 0, .inr (.inl 47)], n1, D2, s3, p4, c5) _
  refine tt_i2l (x := r7) rfl (by omega) ?_
  refine tt_lsb (a := 47) (i := 0) (x := r7) (m := 1) rfl rfl (by omega) hC5 ⟨rfl, rfl⟩ (by omega) ?_
  intro c16 hC16 ec16
  show tt Zi d 105 (9, [some (.inr (.inl 0)), some (.inl ag0), some (.inr (.inl 47)), none], [], n1, D2, s3, p4, c16) _
  have FK17 : fk p c n1 p4 c16 [47, 400, 900, 901, 1203, 1204] := fk_st (k := 47) FKp4 ec16 (by decide) rfl
  refine tt_k 2 (S' := (16, [some (.inr (.inl 0)), some (.inl ag0), some (.inr (.inl 47)), none], [.inl 0], n1, D2, s3, p4, c16)) rfl ?_
  exact tt_rti rfl rfl ⟨0, rfl, by omega, ⟨cX_mono (q := (q + 1)) (show cX (q + 1) g s p c [47, 400, 900, 901, 1203, 1204] [401, 800, 801, 802, 803, 804, 805, 806, 807, 808, 809, 902, 1206, 1207, 1208, 1209, 1210, 1211, 1212, 1213, 1214, 1215, 1216, 1601, 1602] (n1, D2, s3, p4, c16) from ⟨hS3, hC16, hW4, FK17, (show fr s s3 [401, 800, 801, 802, 803, 804, 805, 806, 807, 808, 809, 902, 1206, 1207, 1208, 1209, 1210, 1211, 1212, 1213, 1214, 1215, 1216, 1601, 1602] from (fr_wk (hY6).1.2.2.2.2 (by decide)))⟩) (by omega), ((hY6).2)⟩, by intro h0; exact k9, by intro h; exact absurd rfl h, by intro h0; show c16 47 0 = _; rw [ec16, uc_eq]; exact k12, by intro h0; show wrl _ _ 0 8 (c16 (p4 400)); rw [ec16, uc_ne (show p4 400 ≠ 47 from FK17.1.2 400 (by decide) 47 (by decide) (by decide))]; exact k10, by intro h0; exact k11, by intro h; exact absurd rfl h, by omega, by intro h; exact absurd rfl h, by intro h0; show mrk _ (c16 (p4 900)); rw [ec16, uc_ne (show p4 900 ≠ 47 from FK17.1.2 900 (by decide) 47 (by decide) (by decide))]; exact k13⟩
set_option maxRecDepth 100000 in
set_option maxHeartbeats 4000000 in
theorem h_out {g : Nat → Int} {Zi : Nat → Option (Nat × (Nat → Int))} {d n q : Nat} {D : Nat → Nat × Nat} {s : Nat → Int} {p : Nat → Nat} {c : Nat → Nat → Int} (hd : 8 ≤ d) (hz : zk Zi) (hq : q + 16 ≤ 400000) (hD : wd n p) (hS : bS s) (hC : bC D c) (hW : wp q g n D p s) (ag0 : Int) (b_ag0 : -2147483648 ≤ ag0 ∧ ag0 ≤ 2147483647) : tt Zi d 115 (0, [some (.inr (.inl 0)), some (.inl ag0), some (.inr (.inl 47)), none], [], n, D, s, p, c) (fun R H => (∃ r : Int, R = .inl (some (.inl r)) ∧ (0 ≤ r ∧ r ≤ 2) ∧ cXp (q + 1) g s p c [47] [800, 801, 802, 803, 804, 805, 806, 807, 808, 809] H ∧ (r = 0 → (0 ≤ ag0 ∧ ag0 < s 401) ∧ H.2.2.2.2 47 0 = mi_and (c (p 400) ag0.toNat) 255) ∧ (r ≠ 0 → r = 1 ∧ ¬ (0 ≤ ag0 ∧ ag0 < s 401)))) := by
  refine tt_k 4 (S' := (4, [some (.inr (.inl 0)), some (.inl ag0), some (.inr (.inl 47)), none], [.inl ag0, .inr (.inl 0), .inl 0, .inr (.inl 47)], n, D, s, p, c)) rfl ?_
  refine tt_cl (by omega) rfl (e_out (Zi := Zi) (q := q) (n := n) (D := D) (s := s) (p := p) (c := c) (by omega) hz (by omega) hD hS hC hW ag0 (by omega)) ?_
  rintro _ ⟨n1, D2, s3, p4, c5⟩ (⟨r7, rfl, b8, hY6, k9, k10⟩ | ⟨rfl, hY11, k12⟩)
  rotate_left
  · skip
    have hS3 : bS s3 := (hY11).1.1
    have hC5 : bC D2 c5 := (hY11).1.2.1
    have hW4 : wp _ _ n1 D2 p4 s3 := (hY11).1.2.2.1
    have FKp4 : fk p c n1 p4 c5 [47] := fk_tr (fk_rf hD) (hY11).1.2.2.2.1 (by decide)
    show tt Zi d 115 (12, [some (.inr (.inl 0)), some (.inl ag0), some (.inr (.inl 47)), none], [.inr (.inl (47 + n1))], n1, D2, s3, p4, c5) _
    refine tt_k 2 (S' := (14, [some (.inr (.inl 0)), some (.inl ag0), some (.inr (.inl 47)), some (.inr (.inl (47 + n1)))], [.inl 1], n1, D2, s3, p4, c5)) rfl ?_
    exact tt_rti rfl rfl ⟨1, rfl, by omega, ⟨cX_mono (q := (q + 1)) (show cX (q + 1) g s p c [47] [800, 801, 802, 803, 804, 805, 806, 807, 808, 809] (n1, D2, s3, p4, c5) from ⟨hS3, hC5, hW4, FKp4, (show fr s s3 [800, 801, 802, 803, 804, 805, 806, 807, 808, 809] from (fr_wk (hY11).1.2.2.2.2 (by decide)))⟩) (by omega), ((hY11).2)⟩, by intro h; exact absurd h (by decide), by intro _; exact ⟨rfl, k12⟩⟩
  have hS3 : bS s3 := (hY6).1.1
  have hC5 : bC D2 c5 := (hY6).1.2.1
  have hW4 : wp _ _ n1 D2 p4 s3 := (hY6).1.2.2.1
  have FKp4 : fk p c n1 p4 c5 [47] := fk_tr (fk_rf hD) (hY6).1.2.2.2.1 (by decide)
  show tt Zi d 115 (7, [some (.inr (.inl 0)), some (.inl ag0), some (.inr (.inl 47)), none], [.inl r7, .inl 0, .inr (.inl 47)], n1, D2, s3, p4, c5) _
  refine tt_i2l (x := r7) rfl (by omega) ?_
  refine tt_lsb (a := 47) (i := 0) (x := r7) (m := 1) rfl rfl (by omega) hC5 ⟨rfl, rfl⟩ (by omega) ?_
  intro c13 hC13 ec13
  show tt Zi d 115 (9, [some (.inr (.inl 0)), some (.inl ag0), some (.inr (.inl 47)), none], [], n1, D2, s3, p4, c13) _
  have FK14 : fk p c n1 p4 c13 [47] := fk_st (k := 47) FKp4 ec13 (by decide) rfl
  refine tt_k 2 (S' := (16, [some (.inr (.inl 0)), some (.inl ag0), some (.inr (.inl 47)), none], [.inl 0], n1, D2, s3, p4, c13)) rfl ?_
  exact tt_rti rfl rfl ⟨0, rfl, by omega, ⟨cX_mono (q := (q + 1)) (show cX (q + 1) g s p c [47] [800, 801, 802, 803, 804, 805, 806, 807, 808, 809] (n1, D2, s3, p4, c13) from ⟨hS3, hC13, hW4, FK14, (show fr s s3 [800, 801, 802, 803, 804, 805, 806, 807, 808, 809] from (fr_wk (hY6).1.2.2.2.2 (by decide)))⟩) (by omega), ((hY6).2)⟩, by intro h0; refine ⟨k9, ?_⟩; show c13 47 0 = _; rw [ec13, uc_eq]; exact k10, by intro h; exact absurd rfl h⟩
set_option maxRecDepth 100000 in
set_option maxHeartbeats 4000000 in
theorem h_end {g : Nat → Int} {Zi : Nat → Option (Nat × (Nat → Int))} {d n q : Nat} {D : Nat → Nat × Nat} {s : Nat → Int} {p : Nat → Nat} {c : Nat → Nat → Int} (hd : 8 ≤ d) (hz : zk Zi) (hq : q + 16 ≤ 400000) (hD : wd n p) (hS : bS s) (hC : bC D c) (hW : wp q g n D p s) (ag0 : Int) (b_ag0 : -2147483648 ≤ ag0 ∧ ag0 ≤ 2147483647) : tt Zi d 120 (0, [some (.inr (.inl 0)), some (.inl ag0), none], [], n, D, s, p, c) (fun R H => (∃ r : Int, R = .inl (some (.inl r)) ∧ (0 ≤ r ∧ r ≤ 2) ∧ cXp (q + 1) g s p c [] [601, 800, 801, 802, 803, 804, 805, 806, 807, 808, 809] H ∧ (r = 0 → (0 ≤ ag0 ∧ ag0 ≤ s 601) ∧ H.2.2.1 601 = ag0) ∧ (r ≠ 0 → r = 1 ∧ ¬ (0 ≤ ag0 ∧ ag0 ≤ s 601) ∧ H.2.2.1 601 = s 601))) := by
  refine tt_k 2 (S' := (2, [some (.inr (.inl 0)), some (.inl ag0), none], [.inl ag0, .inr (.inl 0)], n, D, s, p, c)) rfl ?_
  refine tt_cl (by omega) rfl (e_end (Zi := Zi) (q := q) (n := n) (D := D) (s := s) (p := p) (c := c) (by omega) hz (by omega) hD hS hC hW ag0 (by omega)) ?_
  rintro _ ⟨n1, D2, s3, p4, c5⟩ (⟨rfl, hY6, k7, k8⟩ | ⟨rfl, hY9, k10⟩)
  rotate_left
  · skip
    have hS3 : bS s3 := (hY9).1.1
    have hC5 : bC D2 c5 := (hY9).1.2.1
    have hW4 : wp _ _ n1 D2 p4 s3 := (hY9).1.2.2.1
    have FKp4 : fk p c n1 p4 c5 [] := fk_tr (fk_rf hD) (hY9).1.2.2.2.1 (by decide)
    show tt Zi d 120 (8, [some (.inr (.inl 0)), some (.inl ag0), none], [.inr (.inl (47 + n1))], n1, D2, s3, p4, c5) _
    refine tt_k 2 (S' := (10, [some (.inr (.inl 0)), some (.inl ag0), some (.inr (.inl (47 + n1)))], [.inl 1], n1, D2, s3, p4, c5)) rfl ?_
    exact tt_rti rfl rfl ⟨1, rfl, by omega, ⟨cX_mono (q := (q + 1)) (show cX (q + 1) g s p c [] [601, 800, 801, 802, 803, 804, 805, 806, 807, 808, 809] (n1, D2, s3, p4, c5) from ⟨hS3, hC5, hW4, FKp4, (show fr s s3 [601, 800, 801, 802, 803, 804, 805, 806, 807, 808, 809] from (fr_wk (hY9).1.2.2.2.2 (by decide)))⟩) (by omega), ((hY9).2)⟩, by intro h; exact absurd h (by decide), by intro _; exact ⟨rfl, k10, (hY9).1.2.2.2.2 601 (by decide)⟩⟩
  have hS3 : bS s3 := (hY6).1.1
  have hC5 : bC D2 c5 := (hY6).1.2.1
  have hW4 : wp _ _ n1 D2 p4 s3 := (hY6).1.2.2.1
  have FKp4 : fk p c n1 p4 c5 [] := fk_tr (fk_rf hD) (hY6).1.2.2.2.1 (by decide)
  show tt Zi d 120 (5, [some (.inr (.inl 0)), some (.inl ag0), none], [], n1, D2, s3, p4, c5) _
  refine tt_k 2 (S' := (12, [some (.inr (.inl 0)), some (.inl ag0), none], [.inl 0], n1, D2, s3, p4, c5)) rfl ?_
  exact tt_rti rfl rfl ⟨0, rfl, by omega, ⟨cX_mono (q := (q + 1)) (show cX (q + 1) g s p c [] [601, 800, 801, 802, 803, 804, 805, 806, 807, 808, 809] (n1, D2, s3, p4, c5) from ⟨hS3, hC5, hW4, FKp4, (show fr s s3 [601, 800, 801, 802, 803, 804, 805, 806, 807, 808, 809] from (fr_wk (hY6).1.2.2.2.2 (by decide)))⟩) (by omega), ((hY6).2)⟩, by intro h0; exact ⟨k7, k8⟩, by intro h; exact absurd rfl h⟩
set_option maxRecDepth 100000 in
set_option maxHeartbeats 4000000 in
theorem h_feed {g : Nat → Int} {Zi : Nat → Option (Nat × (Nat → Int))} {d n q : Nat} {D : Nat → Nat × Nat} {s : Nat → Int} {p : Nat → Nat} {c : Nat → Nat → Int} (hd : 8 ≤ d) (hz : zk Zi) (hq : q + 16 ≤ 400000) (hD : wd n p) (hS : bS s) (hC : bC D c) (hW : wp q g n D p s) (W : WT) (ag0 : Int) (ag1 : Int) (ag2 : Int) (ag3 : Int) (ag4 : Int) (b_ag0 : -2147483648 ≤ ag0 ∧ ag0 ≤ 2147483647) (b_ag1 : -2147483648 ≤ ag1 ∧ ag1 ≤ 2147483647) (b_ag2 : -2147483648 ≤ ag2 ∧ ag2 ≤ 2147483647) (b_ag3 : -2147483648 ≤ ag3 ∧ ag3 ≤ 2147483647) (b_ag4 : -2147483648 ≤ ag4 ∧ ag4 ≤ 2147483647) (hp0 : wrt W (s 601) (c (p 600))) : tt Zi d 117 (0, [some (.inr (.inl 0)), some (.inl ag0), some (.inl ag1), some (.inl ag2), some (.inl ag3), some (.inl ag4), some (.inr (.inl 47)), none], [], n, D, s, p, c) (fun R H => (∃ r : Int, R = .inl (some (.inl r)) ∧ (0 ≤ r ∧ r ≤ 2) ∧ cXp (q + 1) g s p c [47, 600] [601, 800, 801, 802, 803, 804, 805, 806, 807, 808, 809] H ∧ (r = 0 → s 601 + 20 ≤ 32768 ∧ H.2.2.1 601 = s 601 + 20 ∧ H.2.2.2.2 47 0 = s 601 + 20) ∧ (r ≠ 0 → r = 1 ∧ ¬ (s 601 + 20 ≤ 32768) ∧ H.2.2.1 601 = s 601) ∧ (r = 0 → wrt (pTy 4 ag4 (pTy 4 ag3 (pTy 4 ag2 (pTy 4 ag1 (pTy 4 ag0 W))))) (H.2.2.1 601) (H.2.2.2.2 (H.2.2.2.1 600))) ∧ (r ≠ 0 → fk p c H.1 H.2.2.2.1 H.2.2.2.2 []))) := by
  refine tt_k 8 (S' := (11, [some (.inr (.inl 0)), some (.inl ag0), some (.inl ag1), some (.inl ag2), some (.inl ag3), some (.inl ag4), some (.inr (.inl 47)), none], [.inl ag4, .inl ag3, .inl ag2, .inl ag1, .inl ag0, .inr (.inl 0), .inl 0, .inr (.inl 47)], n, D, s, p, c)) rfl ?_
  refine tt_cl (by omega) rfl (e_feedw (Zi := Zi) (q := q) (n := n) (D := D) (s := s) (p := p) (c := c) (by omega) hz (by omega) hD hS hC hW W ag0 ag1 ag2 ag3 ag4 (by omega) (by omega) (by omega) (by omega) (by omega) hp0) ?_
  rintro _ ⟨n1, D2, s3, p4, c5⟩ (⟨r7, rfl, b8, hY6, k9, k10, k11, k12⟩ | ⟨rfl, hY13, k14⟩)
  rotate_left
  · skip
    have hS3 : bS s3 := (hY13).1.1
    have hC5 : bC D2 c5 := (hY13).1.2.1
    have hW4 : wp _ _ n1 D2 p4 s3 := (hY13).1.2.2.1
    have FKp4 : fk p c n1 p4 c5 [47, 600] := fk_tr (fk_rf hD) (hY13).1.2.2.2.1 (by decide)
    show tt Zi d 117 (19, [some (.inr (.inl 0)), some (.inl ag0), some (.inl ag1), some (.inl ag2), some (.inl ag3), some (.inl ag4), some (.inr (.inl 47)), none], [.inr (.inl (47 + n1))], n1, D2, s3, p4, c5) _
    refine tt_k 2 (S' := (22, [some (.inr (.inl 0)), some (.inl ag0), some (.inl ag1), some (.inl ag2), some (.inl ag3), some (.inl ag4), some (.inr (.inl 47)), some (.inr (.inl (47 + n1)))], [.inl 1], n1, D2, s3, p4, c5)) rfl ?_
    exact tt_rti rfl rfl ⟨1, rfl, by omega, ⟨cX_mono (q := (q + 1)) (show cX (q + 1) g s p c [47, 600] [601, 800, 801, 802, 803, 804, 805, 806, 807, 808, 809] (n1, D2, s3, p4, c5) from ⟨hS3, hC5, hW4, FKp4, (show fr s s3 [601, 800, 801, 802, 803, 804, 805, 806, 807, 808, 809] from (fr_wk (hY13).1.2.2.2.2 (by decide)))⟩) (by omega), ((hY13).2)⟩, by intro h; exact absurd h (by decide), by intro _; exact ⟨rfl, k14, (hY13).1.2.2.2.2 601 (by decide)⟩, by intro h; exact absurd h (by decide), by intro _; exact (hY13).1.2.2.2.1⟩
  have hS3 : bS s3 := (hY6).1.1
  have hC5 : bC D2 c5 := (hY6).1.2.1
  have hW4 : wp _ _ n1 D2 p4 s3 := (hY6).1.2.2.1
  have FKp4 : fk p c n1 p4 c5 [47, 600] := fk_tr (fk_rf hD) (hY6).1.2.2.2.1 (by decide)
  show tt Zi d 117 (14, [some (.inr (.inl 0)), some (.inl ag0), some (.inl ag1), some (.inl ag2), some (.inl ag3), some (.inl ag4), some (.inr (.inl 47)), none], [.inl r7, .inl 0, .inr (.inl 47)], n1, D2, s3, p4, c5) _
  refine tt_i2l (x := r7) rfl (by omega) ?_
  refine tt_lsb (a := 47) (i := 0) (x := r7) (m := 1) rfl rfl (by omega) hC5 ⟨rfl, rfl⟩ (by omega) ?_
  intro c15 hC15 ec15
  show tt Zi d 117 (16, [some (.inr (.inl 0)), some (.inl ag0), some (.inl ag1), some (.inl ag2), some (.inl ag3), some (.inl ag4), some (.inr (.inl 47)), none], [], n1, D2, s3, p4, c15) _
  have FK16 : fk p c n1 p4 c15 [47, 600] := fk_st (k := 47) FKp4 ec15 (by decide) rfl
  refine tt_k 2 (S' := (24, [some (.inr (.inl 0)), some (.inl ag0), some (.inl ag1), some (.inl ag2), some (.inl ag3), some (.inl ag4), some (.inr (.inl 47)), none], [.inl 0], n1, D2, s3, p4, c15)) rfl ?_
  exact tt_rti rfl rfl ⟨0, rfl, by omega, ⟨cX_mono (q := (q + 1)) (show cX (q + 1) g s p c [47, 600] [601, 800, 801, 802, 803, 804, 805, 806, 807, 808, 809] (n1, D2, s3, p4, c15) from ⟨hS3, hC15, hW4, FK16, (show fr s s3 [601, 800, 801, 802, 803, 804, 805, 806, 807, 808, 809] from (fr_wk (hY6).1.2.2.2.2 (by decide)))⟩) (by omega), ((hY6).2)⟩, by intro h0; refine ⟨k9, k11, ?_⟩; show c15 47 0 = _; rw [ec15, uc_eq]; exact k10.trans k11, by intro h; exact absurd rfl h, by intro h0; show wrt _ _ (c15 (p4 600)); rw [ec15, uc_ne (show p4 600 ≠ 47 from FK16.1.2 600 (by decide) 47 (by decide) (by decide))]; exact k12, by intro h; exact absurd rfl h⟩
set_option maxRecDepth 100000 in
set_option maxHeartbeats 4000000 in
theorem h_change {g : Nat → Int} {Zi : Nat → Option (Nat × (Nat → Int))} {d n q : Nat} {D : Nat → Nat × Nat} {s : Nat → Int} {p : Nat → Nat} {c : Nat → Nat → Int} (hd : 8 ≤ d) (hz : zk Zi) (hq : q + 16 ≤ 400000) (hD : wd n p) (hS : bS s) (hC : bC D c) (hW : wp q g n D p s) (ag0 : Int) (ag1 : Int) (b_ag0 : -2147483648 ≤ ag0 ∧ ag0 ≤ 2147483647) (b_ag1 : -2147483648 ≤ ag1 ∧ ag1 ≤ 2147483647) : tt Zi d 122 (0, [some (.inr (.inl 0)), some (.inl ag0), some (.inl ag1), some (.inr (.inl 47)), none], [], n, D, s, p, c) (fun R H => (∃ r : Int, R = .inl (some (.inl r)) ∧ (0 ≤ r ∧ r ≤ 2) ∧ cXp (q + 1) g s p c [47, 600] [800, 801, 802, 803, 804, 805, 806, 807, 808, 809] H ∧ (chP r ag0 ag1 (s 601)) ∧ (r = 0 → H.2.2.2.2 47 0 = (mi_xor (mi_and (c (p 600) ag0.toNat) 255) ag1)) ∧ (r = 0 → H.2.2.2.2 (H.2.2.2.1 600) = ua (c (p 600)) ag0.toNat (nb (mi_xor (mi_and (c (p 600) ag0.toNat) 255) ag1))) ∧ (r ≠ 0 → fk p c H.1 H.2.2.2.1 H.2.2.2.2 []))) := by
  refine tt_k 5 (S' := (5, [some (.inr (.inl 0)), some (.inl ag0), some (.inl ag1), some (.inr (.inl 47)), none], [.inl ag1, .inl ag0, .inr (.inl 0), .inl 0, .inr (.inl 47)], n, D, s, p, c)) rfl ?_
  refine tt_cl (by omega) rfl (e_changew (Zi := Zi) (q := q) (n := n) (D := D) (s := s) (p := p) (c := c) (by omega) hz (by omega) hD hS hC hW ag0 ag1 (by omega) (by omega)) ?_
  rintro _ ⟨n1, D2, s3, p4, c5⟩ (⟨r7, rfl, b8, hY6, k9, k10, k11⟩ | ⟨rfl, hY12, k13⟩ | ⟨rfl, hY14, k15⟩)
  rotate_left
  · skip
    have hS3 : bS s3 := (hY12).1.1
    have hC5 : bC D2 c5 := (hY12).1.2.1
    have hW4 : wp _ _ n1 D2 p4 s3 := (hY12).1.2.2.1
    have FKp4 : fk p c n1 p4 c5 [47, 600] := fk_tr (fk_rf hD) (hY12).1.2.2.2.1 (by decide)
    show tt Zi d 122 (13, [some (.inr (.inl 0)), some (.inl ag0), some (.inl ag1), some (.inr (.inl 47)), none], [.inr (.inl (47 + n1))], n1, D2, s3, p4, c5) _
    refine tt_k 2 (S' := (16, [some (.inr (.inl 0)), some (.inl ag0), some (.inl ag1), some (.inr (.inl 47)), some (.inr (.inl (47 + n1)))], [.inl 1], n1, D2, s3, p4, c5)) rfl ?_
    exact tt_rti rfl rfl ⟨1, rfl, by omega, ⟨cX_mono (q := (q + 1)) (show cX (q + 1) g s p c [47, 600] [800, 801, 802, 803, 804, 805, 806, 807, 808, 809] (n1, D2, s3, p4, c5) from ⟨hS3, hC5, hW4, FKp4, (show fr s s3 [800, 801, 802, 803, 804, 805, 806, 807, 808, 809] from (fr_wk (hY12).1.2.2.2.2 (by decide)))⟩) (by omega), ((hY12).2)⟩, by exact Or.inr (Or.inr ⟨rfl, k13⟩), by intro h; exact absurd h (by decide), by intro h; exact absurd h (by decide), by intro _; exact (hY12).1.2.2.2.1⟩
  · skip
    have hS3 : bS s3 := (hY14).1.1
    have hC5 : bC D2 c5 := (hY14).1.2.1
    have hW4 : wp _ _ n1 D2 p4 s3 := (hY14).1.2.2.1
    have FKp4 : fk p c n1 p4 c5 [47, 600] := fk_tr (fk_rf hD) (hY14).1.2.2.2.1 (by decide)
    show tt Zi d 122 (17, [some (.inr (.inl 0)), some (.inl ag0), some (.inl ag1), some (.inr (.inl 47)), none], [.inr (.inl (47 + n1))], n1, D2, s3, p4, c5) _
    refine tt_k 2 (S' := (20, [some (.inr (.inl 0)), some (.inl ag0), some (.inl ag1), some (.inr (.inl 47)), some (.inr (.inl (47 + n1)))], [.inl 2], n1, D2, s3, p4, c5)) rfl ?_
    exact tt_rti rfl rfl ⟨2, rfl, by omega, ⟨cX_mono (q := (q + 1)) (show cX (q + 1) g s p c [47, 600] [800, 801, 802, 803, 804, 805, 806, 807, 808, 809] (n1, D2, s3, p4, c5) from ⟨hS3, hC5, hW4, FKp4, (show fr s s3 [800, 801, 802, 803, 804, 805, 806, 807, 808, 809] from (fr_wk (hY14).1.2.2.2.2 (by decide)))⟩) (by omega), ((hY14).2)⟩, by exact Or.inr (Or.inl ⟨rfl, k15⟩), by intro h; exact absurd h (by decide), by intro h; exact absurd h (by decide), by intro _; exact (hY14).1.2.2.2.1⟩
  have hS3 : bS s3 := (hY6).1.1
  have hC5 : bC D2 c5 := (hY6).1.2.1
  have hW4 : wp _ _ n1 D2 p4 s3 := (hY6).1.2.2.1
  have FKp4 : fk p c n1 p4 c5 [47, 600] := fk_tr (fk_rf hD) (hY6).1.2.2.2.1 (by decide)
  show tt Zi d 122 (8, [some (.inr (.inl 0)), some (.inl ag0), some (.inl ag1), some (.inr (.inl 47)), none], [.inl r7, .inl 0, .inr (.inl 47)], n1, D2, s3, p4, c5) _
  refine tt_i2l (x := r7) rfl (by omega) ?_
  refine tt_lsb (a := 47) (i := 0) (x := r7) (m := 1) rfl rfl (by omega) hC5 ⟨rfl, rfl⟩ (by omega) ?_
  intro c16 hC16 ec16
  show tt Zi d 122 (10, [some (.inr (.inl 0)), some (.inl ag0), some (.inl ag1), some (.inr (.inl 47)), none], [], n1, D2, s3, p4, c16) _
  have FK17 : fk p c n1 p4 c16 [47, 600] := fk_st (k := 47) FKp4 ec16 (by decide) rfl
  refine tt_k 2 (S' := (22, [some (.inr (.inl 0)), some (.inl ag0), some (.inl ag1), some (.inr (.inl 47)), none], [.inl 0], n1, D2, s3, p4, c16)) rfl ?_
  exact tt_rti rfl rfl ⟨0, rfl, by omega, ⟨cX_mono (q := (q + 1)) (show cX (q + 1) g s p c [47, 600] [800, 801, 802, 803, 804, 805, 806, 807, 808, 809] (n1, D2, s3, p4, c16) from ⟨hS3, hC16, hW4, FK17, (show fr s s3 [800, 801, 802, 803, 804, 805, 806, 807, 808, 809] from (fr_wk (hY6).1.2.2.2.2 (by decide)))⟩) (by omega), ((hY6).2)⟩, by exact Or.inl ⟨rfl, k9⟩, by intro h0; show c16 47 0 = _; rw [ec16, uc_eq]; exact k10, by intro h0; show c16 (p4 600) = _; rw [ec16, uc_ne (show p4 600 ≠ 47 from FK17.1.2 600 (by decide) 47 (by decide) (by decide))]; exact k11, by intro h; exact absurd rfl h⟩
set_option maxRecDepth 100000 in
set_option maxHeartbeats 4000000 in
theorem h_turn {g : Nat → Int} {Zi : Nat → Option (Nat × (Nat → Int))} {d n q : Nat} {D : Nat → Nat × Nat} {s : Nat → Int} {p : Nat → Nat} {c : Nat → Nat → Int} (hd : 8 ≤ d) (hz : zk Zi) (hq : q + 16 ≤ 400000) (hD : wd n p) (hS : bS s) (hC : bC D c) (hW : wp q g n D p s)  : tt Zi d 124 (0, [some (.inr (.inl 0)), some (.inr (.inl 47)), none], [], n, D, s, p, c) (fun R H => (∃ r : Int, R = .inl (some (.inl r)) ∧ (0 ≤ r ∧ r ≤ 2) ∧ cXp (q + 1) g s p c [47, 600] [601, 800, 801, 802, 803, 804, 805, 806, 807, 808, 809] H ∧ (r = 0 → s 401 ≤ 32768 ∧ H.2.2.1 601 = s 401 ∧ H.2.2.2.2 47 0 = s 401) ∧ (r ≠ 0 → r = 1 ∧ ¬ (s 401 ≤ 32768) ∧ H.2.2.1 601 = s 601) ∧ (r = 0 → ∀ i : Nat, (i : Int) < s 401 → H.2.2.2.2 (H.2.2.2.1 600) i = c (p 400) i) ∧ (r ≠ 0 → fk p c H.1 H.2.2.2.1 H.2.2.2.2 []))) := by
  refine tt_k 3 (S' := (3, [some (.inr (.inl 0)), some (.inr (.inl 47)), none], [.inr (.inl 0), .inl 0, .inr (.inl 47)], n, D, s, p, c)) rfl ?_
  refine tt_cl (by omega) rfl (e_turnw (Zi := Zi) (q := q) (n := n) (D := D) (s := s) (p := p) (c := c) (by omega) hz (by omega) hD hS hC hW ) ?_
  rintro _ ⟨n1, D2, s3, p4, c5⟩ (⟨r7, rfl, b8, hY6, k9, k10, k11, k12⟩ | ⟨rfl, hY13, k14⟩)
  rotate_left
  · skip
    have hS3 : bS s3 := (hY13).1.1
    have hC5 : bC D2 c5 := (hY13).1.2.1
    have hW4 : wp _ _ n1 D2 p4 s3 := (hY13).1.2.2.1
    have FKp4 : fk p c n1 p4 c5 [47, 600] := fk_tr (fk_rf hD) (hY13).1.2.2.2.1 (by decide)
    show tt Zi d 124 (11, [some (.inr (.inl 0)), some (.inr (.inl 47)), none], [.inr (.inl (47 + n1))], n1, D2, s3, p4, c5) _
    refine tt_k 2 (S' := (13, [some (.inr (.inl 0)), some (.inr (.inl 47)), some (.inr (.inl (47 + n1)))], [.inl 1], n1, D2, s3, p4, c5)) rfl ?_
    exact tt_rti rfl rfl ⟨1, rfl, by omega, ⟨cX_mono (q := (q + 1)) (show cX (q + 1) g s p c [47, 600] [601, 800, 801, 802, 803, 804, 805, 806, 807, 808, 809] (n1, D2, s3, p4, c5) from ⟨hS3, hC5, hW4, FKp4, (show fr s s3 [601, 800, 801, 802, 803, 804, 805, 806, 807, 808, 809] from (fr_wk (hY13).1.2.2.2.2 (by decide)))⟩) (by omega), ((hY13).2)⟩, by intro h; exact absurd h (by decide), by intro _; exact ⟨rfl, k14, (hY13).1.2.2.2.2 601 (by decide)⟩, by intro h; exact absurd h (by decide), by intro _; exact (hY13).1.2.2.2.1⟩
  have hS3 : bS s3 := (hY6).1.1
  have hC5 : bC D2 c5 := (hY6).1.2.1
  have hW4 : wp _ _ n1 D2 p4 s3 := (hY6).1.2.2.1
  have FKp4 : fk p c n1 p4 c5 [47, 600] := fk_tr (fk_rf hD) (hY6).1.2.2.2.1 (by decide)
  show tt Zi d 124 (6, [some (.inr (.inl 0)), some (.inr (.inl 47)), none], [.inl r7, .inl 0, .inr (.inl 47)], n1, D2, s3, p4, c5) _
  refine tt_i2l (x := r7) rfl (by omega) ?_
  refine tt_lsb (a := 47) (i := 0) (x := r7) (m := 1) rfl rfl (by omega) hC5 ⟨rfl, rfl⟩ (by omega) ?_
  intro c15 hC15 ec15
  show tt Zi d 124 (8, [some (.inr (.inl 0)), some (.inr (.inl 47)), none], [], n1, D2, s3, p4, c15) _
  have FK16 : fk p c n1 p4 c15 [47, 600] := fk_st (k := 47) FKp4 ec15 (by decide) rfl
  refine tt_k 2 (S' := (15, [some (.inr (.inl 0)), some (.inr (.inl 47)), none], [.inl 0], n1, D2, s3, p4, c15)) rfl ?_
  exact tt_rti rfl rfl ⟨0, rfl, by omega, ⟨cX_mono (q := (q + 1)) (show cX (q + 1) g s p c [47, 600] [601, 800, 801, 802, 803, 804, 805, 806, 807, 808, 809] (n1, D2, s3, p4, c15) from ⟨hS3, hC15, hW4, FK16, (show fr s s3 [601, 800, 801, 802, 803, 804, 805, 806, 807, 808, 809] from (fr_wk (hY6).1.2.2.2.2 (by decide)))⟩) (by omega), ((hY6).2)⟩, by intro h0; refine ⟨k9, k11, ?_⟩; show c15 47 0 = _; rw [ec15, uc_eq]; exact k10.trans k11, by intro h; exact absurd rfl h, by intro h0; intro i hi; show c15 (p4 600) i = _; rw [ec15, uc_ne (show p4 600 ≠ 47 from FK16.1.2 600 (by decide) 47 (by decide) (by decide))]; exact k12 i hi, by intro h; exact absurd rfl h⟩
set_option maxRecDepth 100000 in
set_option maxHeartbeats 4000000 in
theorem h_about {g : Nat → Int} {Zi : Nat → Option (Nat × (Nat → Int))} {d n q : Nat} {D : Nat → Nat × Nat} {s : Nat → Int} {p : Nat → Nat} {c : Nat → Nat → Int} (hd : 8 ≤ d) (hz : zk Zi) (hq : q + 16 ≤ 400000) (hD : wd n p) (hS : bS s) (hC : bC D c) (hW : wp q g n D p s) (ag0 : Int) (b_ag0 : -2147483648 ≤ ag0 ∧ ag0 ≤ 2147483647) : tt Zi d 127 (0, [some (.inr (.inl 0)), some (.inl ag0), some (.inr (.inl 47)), none], [], n, D, s, p, c) (fun R H => (∃ r : Int, R = .inl (some (.inl r)) ∧ (0 ≤ r ∧ r ≤ 2) ∧ cXp (q + 1) g s p c [47] [800, 801, 802, 803, 804, 805, 806, 807, 808, 809] H ∧ (r = 0 → (0 ≤ ag0 ∧ ag0 ≤ 3) ∧ s 10 = 1 ∧ H.2.2.2.2 47 0 = abV ag0 s p) ∧ (r ≠ 0 → (r = 1 ∧ ¬ (0 ≤ ag0 ∧ ag0 ≤ 3)) ∨ (r = 2 ∧ (0 ≤ ag0 ∧ ag0 ≤ 3) ∧ s 10 ≠ 1)))) := by
  refine tt_k 4 (S' := (4, [some (.inr (.inl 0)), some (.inl ag0), some (.inr (.inl 47)), none], [.inl ag0, .inr (.inl 0), .inl 0, .inr (.inl 47)], n, D, s, p, c)) rfl ?_
  refine tt_cl (by omega) rfl (e_about (Zi := Zi) (q := q) (n := n) (D := D) (s := s) (p := p) (c := c) (by omega) hz (by omega) hD hS hC hW ag0 (by omega)) ?_
  rintro _ ⟨n1, D2, s3, p4, c5⟩ (⟨r7, rfl, b8, hY6, k9, k10⟩ | ⟨rfl, hY11, k12⟩ | ⟨rfl, hY13, k14⟩)
  rotate_left
  · skip
    have hS3 : bS s3 := (hY11).1.1
    have hC5 : bC D2 c5 := (hY11).1.2.1
    have hW4 : wp _ _ n1 D2 p4 s3 := (hY11).1.2.2.1
    have FKp4 : fk p c n1 p4 c5 [47] := fk_tr (fk_rf hD) (hY11).1.2.2.2.1 (by decide)
    show tt Zi d 127 (12, [some (.inr (.inl 0)), some (.inl ag0), some (.inr (.inl 47)), none], [.inr (.inl (47 + n1))], n1, D2, s3, p4, c5) _
    refine tt_k 2 (S' := (14, [some (.inr (.inl 0)), some (.inl ag0), some (.inr (.inl 47)), some (.inr (.inl (47 + n1)))], [.inl 1], n1, D2, s3, p4, c5)) rfl ?_
    exact tt_rti rfl rfl ⟨1, rfl, by omega, ⟨cX_mono (q := (q + 1)) (show cX (q + 1) g s p c [47] [800, 801, 802, 803, 804, 805, 806, 807, 808, 809] (n1, D2, s3, p4, c5) from ⟨hS3, hC5, hW4, FKp4, (show fr s s3 [800, 801, 802, 803, 804, 805, 806, 807, 808, 809] from (fr_wk (hY11).1.2.2.2.2 (by decide)))⟩) (by omega), ((hY11).2)⟩, by intro h; exact absurd h (by decide), by intro _; exact Or.inl ⟨rfl, k12⟩⟩
  · skip
    have hS3 : bS s3 := (hY13).1.1
    have hC5 : bC D2 c5 := (hY13).1.2.1
    have hW4 : wp _ _ n1 D2 p4 s3 := (hY13).1.2.2.1
    have FKp4 : fk p c n1 p4 c5 [47] := fk_tr (fk_rf hD) (hY13).1.2.2.2.1 (by decide)
    show tt Zi d 127 (15, [some (.inr (.inl 0)), some (.inl ag0), some (.inr (.inl 47)), none], [.inr (.inl (47 + n1))], n1, D2, s3, p4, c5) _
    refine tt_k 2 (S' := (17, [some (.inr (.inl 0)), some (.inl ag0), some (.inr (.inl 47)), some (.inr (.inl (47 + n1)))], [.inl 2], n1, D2, s3, p4, c5)) rfl ?_
    exact tt_rti rfl rfl ⟨2, rfl, by omega, ⟨cX_mono (q := (q + 1)) (show cX (q + 1) g s p c [47] [800, 801, 802, 803, 804, 805, 806, 807, 808, 809] (n1, D2, s3, p4, c5) from ⟨hS3, hC5, hW4, FKp4, (show fr s s3 [800, 801, 802, 803, 804, 805, 806, 807, 808, 809] from (fr_wk (hY13).1.2.2.2.2 (by decide)))⟩) (by omega), ((hY13).2)⟩, by intro h; exact absurd h (by decide), by intro _; exact Or.inr ⟨rfl, k14⟩⟩
  have hS3 : bS s3 := (hY6).1.1
  have hC5 : bC D2 c5 := (hY6).1.2.1
  have hW4 : wp _ _ n1 D2 p4 s3 := (hY6).1.2.2.1
  have FKp4 : fk p c n1 p4 c5 [47] := fk_tr (fk_rf hD) (hY6).1.2.2.2.1 (by decide)
  show tt Zi d 127 (7, [some (.inr (.inl 0)), some (.inl ag0), some (.inr (.inl 47)), none], [.inl r7, .inl 0, .inr (.inl 47)], n1, D2, s3, p4, c5) _
  refine tt_i2l (x := r7) rfl (by omega) ?_
  refine tt_lsb (a := 47) (i := 0) (x := r7) (m := 1) rfl rfl (by omega) hC5 ⟨rfl, rfl⟩ (by omega) ?_
  intro c15 hC15 ec15
  show tt Zi d 127 (9, [some (.inr (.inl 0)), some (.inl ag0), some (.inr (.inl 47)), none], [], n1, D2, s3, p4, c15) _
  have FK16 : fk p c n1 p4 c15 [47] := fk_st (k := 47) FKp4 ec15 (by decide) rfl
  refine tt_k 2 (S' := (19, [some (.inr (.inl 0)), some (.inl ag0), some (.inr (.inl 47)), none], [.inl 0], n1, D2, s3, p4, c15)) rfl ?_
  exact tt_rti rfl rfl ⟨0, rfl, by omega, ⟨cX_mono (q := (q + 1)) (show cX (q + 1) g s p c [47] [800, 801, 802, 803, 804, 805, 806, 807, 808, 809] (n1, D2, s3, p4, c15) from ⟨hS3, hC15, hW4, FK16, (show fr s s3 [800, 801, 802, 803, 804, 805, 806, 807, 808, 809] from (fr_wk (hY6).1.2.2.2.2 (by decide)))⟩) (by omega), ((hY6).2)⟩, by intro h0; refine ⟨k9.1, k9.2, ?_⟩; show c15 47 0 = _; rw [ec15, uc_eq]; exact k10, by intro h; exact absurd rfl h⟩
set_option maxRecDepth 100000 in
set_option maxHeartbeats 4000000 in
theorem h_sample {g : Nat → Int} {Zi : Nat → Option (Nat × (Nat → Int))} {d n q : Nat} {D : Nat → Nat × Nat} {s : Nat → Int} {p : Nat → Nat} {c : Nat → Nat → Int} (hd : 8 ≤ d) (hz : zk Zi) (hq : q + 16 ≤ 400000) (hD : wd n p) (hS : bS s) (hC : bC D c) (hW : wp q g n D p s) (ag0 : Int) (ag1 : Int) (ag2 : Int) (b_ag0 : -2147483648 ≤ ag0 ∧ ag0 ≤ 2147483647) (b_ag1 : -2147483648 ≤ ag1 ∧ ag1 ≤ 2147483647) (b_ag2 : -2147483648 ≤ ag2 ∧ ag2 ≤ 2147483647) : tt Zi d 129 (0, [some (.inr (.inl 0)), some (.inl ag0), some (.inl ag1), some (.inl ag2), some (.inr (.inl 47)), none], [], n, D, s, p, c) (fun R H => (∃ r : Int, R = .inl (some (.inl r)) ∧ (0 ≤ r ∧ r ≤ 2) ∧ cXp (q + 1) g s p c [47] [800, 801, 802, 803, 804, 805, 806, 807, 808, 809] H ∧ (r = 0 → s 10 = 1 ∧ ((0 ≤ ag0 ∧ ag0 < s (100 * p 8 + 2)) ∧ (0 ≤ ag1 ∧ ag1 < s (100 * p 8)) ∧ (0 ≤ ag2 ∧ ag2 < s (100 * p 8 + 1))) ∧ H.2.2.2.2 47 0 = c (p (100 * p 8 + 4)) ((ag0 * s (100 * p 8 + 1) + ag2) * s (100 * p 8) + ag1).toNat) ∧ (r ≠ 0 → (r = 1 ∧ s 10 ≠ 1) ∨ (r = 2 ∧ s 10 = 1 ∧ ¬ ((0 ≤ ag0 ∧ ag0 < s (100 * p 8 + 2)) ∧ (0 ≤ ag1 ∧ ag1 < s (100 * p 8)) ∧ (0 ≤ ag2 ∧ ag2 < s (100 * p 8 + 1))))))) := by
  refine tt_k 6 (S' := (7, [some (.inr (.inl 0)), some (.inl ag0), some (.inl ag1), some (.inl ag2), some (.inr (.inl 47)), none], [.inl ag2, .inl ag1, .inl ag0, .inr (.inl 0), .inl 0, .inr (.inl 47)], n, D, s, p, c)) rfl ?_
  refine tt_cl (by omega) rfl (e_sample (Zi := Zi) (q := q) (n := n) (D := D) (s := s) (p := p) (c := c) (by omega) hz (by omega) hD hS hC hW ag0 ag1 ag2 (by omega) (by omega) (by omega)) ?_
  rintro _ ⟨n1, D2, s3, p4, c5⟩ (⟨r7, rfl, b8, hY6, k9, k10⟩ | ⟨rfl, hY11, k12⟩ | ⟨rfl, hY13, k14⟩)
  rotate_left
  · skip
    have hS3 : bS s3 := (hY11).1.1
    have hC5 : bC D2 c5 := (hY11).1.2.1
    have hW4 : wp _ _ n1 D2 p4 s3 := (hY11).1.2.2.1
    have FKp4 : fk p c n1 p4 c5 [47] := fk_tr (fk_rf hD) (hY11).1.2.2.2.1 (by decide)
    show tt Zi d 129 (15, [some (.inr (.inl 0)), some (.inl ag0), some (.inl ag1), some (.inl ag2), some (.inr (.inl 47)), none], [.inr (.inl (47 + n1))], n1, D2, s3, p4, c5) _
    refine tt_k 2 (S' := (18, [some (.inr (.inl 0)), some (.inl ag0), some (.inl ag1), some (.inl ag2), some (.inr (.inl 47)), some (.inr (.inl (47 + n1)))], [.inl 1], n1, D2, s3, p4, c5)) rfl ?_
    exact tt_rti rfl rfl ⟨1, rfl, by omega, ⟨cX_mono (q := (q + 1)) (show cX (q + 1) g s p c [47] [800, 801, 802, 803, 804, 805, 806, 807, 808, 809] (n1, D2, s3, p4, c5) from ⟨hS3, hC5, hW4, FKp4, (show fr s s3 [800, 801, 802, 803, 804, 805, 806, 807, 808, 809] from (fr_wk (hY11).1.2.2.2.2 (by decide)))⟩) (by omega), ((hY11).2)⟩, by intro h; exact absurd h (by decide), by intro _; exact Or.inl ⟨rfl, k12⟩⟩
  · skip
    have hS3 : bS s3 := (hY13).1.1
    have hC5 : bC D2 c5 := (hY13).1.2.1
    have hW4 : wp _ _ n1 D2 p4 s3 := (hY13).1.2.2.1
    have FKp4 : fk p c n1 p4 c5 [47] := fk_tr (fk_rf hD) (hY13).1.2.2.2.1 (by decide)
    show tt Zi d 129 (19, [some (.inr (.inl 0)), some (.inl ag0), some (.inl ag1), some (.inl ag2), some (.inr (.inl 47)), none], [.inr (.inl (47 + n1))], n1, D2, s3, p4, c5) _
    refine tt_k 2 (S' := (22, [some (.inr (.inl 0)), some (.inl ag0), some (.inl ag1), some (.inl ag2), some (.inr (.inl 47)), some (.inr (.inl (47 + n1)))], [.inl 2], n1, D2, s3, p4, c5)) rfl ?_
    exact tt_rti rfl rfl ⟨2, rfl, by omega, ⟨cX_mono (q := (q + 1)) (show cX (q + 1) g s p c [47] [800, 801, 802, 803, 804, 805, 806, 807, 808, 809] (n1, D2, s3, p4, c5) from ⟨hS3, hC5, hW4, FKp4, (show fr s s3 [800, 801, 802, 803, 804, 805, 806, 807, 808, 809] from (fr_wk (hY13).1.2.2.2.2 (by decide)))⟩) (by omega), ((hY13).2)⟩, by intro h; exact absurd h (by decide), by intro _; exact Or.inr ⟨rfl, k14⟩⟩
  have hS3 : bS s3 := (hY6).1.1
  have hC5 : bC D2 c5 := (hY6).1.2.1
  have hW4 : wp _ _ n1 D2 p4 s3 := (hY6).1.2.2.1
  have FKp4 : fk p c n1 p4 c5 [47] := fk_tr (fk_rf hD) (hY6).1.2.2.2.1 (by decide)
  show tt Zi d 129 (10, [some (.inr (.inl 0)), some (.inl ag0), some (.inl ag1), some (.inl ag2), some (.inr (.inl 47)), none], [.inl r7, .inl 0, .inr (.inl 47)], n1, D2, s3, p4, c5) _
  refine tt_i2l (x := r7) rfl (by omega) ?_
  refine tt_lsb (a := 47) (i := 0) (x := r7) (m := 1) rfl rfl (by omega) hC5 ⟨rfl, rfl⟩ (by omega) ?_
  intro c15 hC15 ec15
  show tt Zi d 129 (12, [some (.inr (.inl 0)), some (.inl ag0), some (.inl ag1), some (.inl ag2), some (.inr (.inl 47)), none], [], n1, D2, s3, p4, c15) _
  have FK16 : fk p c n1 p4 c15 [47] := fk_st (k := 47) FKp4 ec15 (by decide) rfl
  refine tt_k 2 (S' := (24, [some (.inr (.inl 0)), some (.inl ag0), some (.inl ag1), some (.inl ag2), some (.inr (.inl 47)), none], [.inl 0], n1, D2, s3, p4, c15)) rfl ?_
  exact tt_rti rfl rfl ⟨0, rfl, by omega, ⟨cX_mono (q := (q + 1)) (show cX (q + 1) g s p c [47] [800, 801, 802, 803, 804, 805, 806, 807, 808, 809] (n1, D2, s3, p4, c15) from ⟨hS3, hC15, hW4, FK16, (show fr s s3 [800, 801, 802, 803, 804, 805, 806, 807, 808, 809] from (fr_wk (hY6).1.2.2.2.2 (by decide)))⟩) (by omega), ((hY6).2)⟩, by intro h0; refine ⟨k9.1, k9.2, ?_⟩; show c15 47 0 = _; rw [ec15, uc_eq]; exact k10, by intro h; exact absurd rfl h⟩
set_option maxRecDepth 100000 in
set_option maxHeartbeats 4000000 in
theorem h_learned {g : Nat → Int} {Zi : Nat → Option (Nat × (Nat → Int))} {d n q : Nat} {D : Nat → Nat × Nat} {s : Nat → Int} {p : Nat → Nat} {c : Nat → Nat → Int} (hd : 8 ≤ d) (hz : zk Zi) (hq : q + 16 ≤ 400000) (hD : wd n p) (hS : bS s) (hC : bC D c) (hW : wp q g n D p s) (ag0 : Int) (ag1 : Int) (b_ag0 : -2147483648 ≤ ag0 ∧ ag0 ≤ 2147483647) (b_ag1 : -2147483648 ≤ ag1 ∧ ag1 ≤ 2147483647) : tt Zi d 131 (0, [some (.inr (.inl 0)), some (.inl ag0), some (.inl ag1), some (.inr (.inl 47)), none], [], n, D, s, p, c) (fun R H => (∃ r : Int, R = .inl (some (.inl r)) ∧ (0 ≤ r ∧ r ≤ 2) ∧ cXp (q + 1) g s p c [47] [800, 801, 802, 803, 804, 805, 806, 807, 808, 809] H ∧ (r = 0 → ((0 ≤ ag0 ∧ ag0 < 367) ∧ (0 ≤ ag1 ∧ ag1 < 4)) ∧ H.2.2.2.2 47 0 = c (p 900) (4 * ag0 + ag1).toNat) ∧ (r ≠ 0 → (r = 1 ∧ ¬ (0 ≤ ag0 ∧ ag0 < 367)) ∨ (r = 2 ∧ (0 ≤ ag0 ∧ ag0 < 367) ∧ ¬ (0 ≤ ag1 ∧ ag1 < 4))))) := by
  refine tt_k 5 (S' := (5, [some (.inr (.inl 0)), some (.inl ag0), some (.inl ag1), some (.inr (.inl 47)), none], [.inl ag1, .inl ag0, .inr (.inl 0), .inl 0, .inr (.inl 47)], n, D, s, p, c)) rfl ?_
  refine tt_cl (by omega) rfl (e_learned (Zi := Zi) (q := q) (n := n) (D := D) (s := s) (p := p) (c := c) (by omega) hz (by omega) hD hS hC hW ag0 ag1 (by omega) (by omega)) ?_
  rintro _ ⟨n1, D2, s3, p4, c5⟩ (⟨r7, rfl, b8, hY6, k9, k10⟩ | ⟨rfl, hY11, k12⟩ | ⟨rfl, hY13, k14⟩)
  rotate_left
  · skip
    have hS3 : bS s3 := (hY11).1.1
    have hC5 : bC D2 c5 := (hY11).1.2.1
    have hW4 : wp _ _ n1 D2 p4 s3 := (hY11).1.2.2.1
    have FKp4 : fk p c n1 p4 c5 [47] := fk_tr (fk_rf hD) (hY11).1.2.2.2.1 (by decide)
    show tt Zi d 131 (13, [some (.inr (.inl 0)), some (.inl ag0), some (.inl ag1), some (.inr (.inl 47)), none], [.inr (.inl (47 + n1))], n1, D2, s3, p4, c5) _
    refine tt_k 2 (S' := (16, [some (.inr (.inl 0)), some (.inl ag0), some (.inl ag1), some (.inr (.inl 47)), some (.inr (.inl (47 + n1)))], [.inl 1], n1, D2, s3, p4, c5)) rfl ?_
    exact tt_rti rfl rfl ⟨1, rfl, by omega, ⟨cX_mono (q := (q + 1)) (show cX (q + 1) g s p c [47] [800, 801, 802, 803, 804, 805, 806, 807, 808, 809] (n1, D2, s3, p4, c5) from ⟨hS3, hC5, hW4, FKp4, (show fr s s3 [800, 801, 802, 803, 804, 805, 806, 807, 808, 809] from (fr_wk (hY11).1.2.2.2.2 (by decide)))⟩) (by omega), ((hY11).2)⟩, by intro h; exact absurd h (by decide), by intro _; exact Or.inl ⟨rfl, k12⟩⟩
  · skip
    have hS3 : bS s3 := (hY13).1.1
    have hC5 : bC D2 c5 := (hY13).1.2.1
    have hW4 : wp _ _ n1 D2 p4 s3 := (hY13).1.2.2.1
    have FKp4 : fk p c n1 p4 c5 [47] := fk_tr (fk_rf hD) (hY13).1.2.2.2.1 (by decide)
    show tt Zi d 131 (17, [some (.inr (.inl 0)), some (.inl ag0), some (.inl ag1), some (.inr (.inl 47)), none], [.inr (.inl (47 + n1))], n1, D2, s3, p4, c5) _
    refine tt_k 2 (S' := (20, [some (.inr (.inl 0)), some (.inl ag0), some (.inl ag1), some (.inr (.inl 47)), some (.inr (.inl (47 + n1)))], [.inl 2], n1, D2, s3, p4, c5)) rfl ?_
    exact tt_rti rfl rfl ⟨2, rfl, by omega, ⟨cX_mono (q := (q + 1)) (show cX (q + 1) g s p c [47] [800, 801, 802, 803, 804, 805, 806, 807, 808, 809] (n1, D2, s3, p4, c5) from ⟨hS3, hC5, hW4, FKp4, (show fr s s3 [800, 801, 802, 803, 804, 805, 806, 807, 808, 809] from (fr_wk (hY13).1.2.2.2.2 (by decide)))⟩) (by omega), ((hY13).2)⟩, by intro h; exact absurd h (by decide), by intro _; exact Or.inr ⟨rfl, k14⟩⟩
  have hS3 : bS s3 := (hY6).1.1
  have hC5 : bC D2 c5 := (hY6).1.2.1
  have hW4 : wp _ _ n1 D2 p4 s3 := (hY6).1.2.2.1
  have FKp4 : fk p c n1 p4 c5 [47] := fk_tr (fk_rf hD) (hY6).1.2.2.2.1 (by decide)
  show tt Zi d 131 (8, [some (.inr (.inl 0)), some (.inl ag0), some (.inl ag1), some (.inr (.inl 47)), none], [.inl r7, .inl 0, .inr (.inl 47)], n1, D2, s3, p4, c5) _
  refine tt_i2l (x := r7) rfl (by omega) ?_
  refine tt_lsb (a := 47) (i := 0) (x := r7) (m := 1) rfl rfl (by omega) hC5 ⟨rfl, rfl⟩ (by omega) ?_
  intro c15 hC15 ec15
  show tt Zi d 131 (10, [some (.inr (.inl 0)), some (.inl ag0), some (.inl ag1), some (.inr (.inl 47)), none], [], n1, D2, s3, p4, c15) _
  have FK16 : fk p c n1 p4 c15 [47] := fk_st (k := 47) FKp4 ec15 (by decide) rfl
  refine tt_k 2 (S' := (22, [some (.inr (.inl 0)), some (.inl ag0), some (.inl ag1), some (.inr (.inl 47)), none], [.inl 0], n1, D2, s3, p4, c15)) rfl ?_
  exact tt_rti rfl rfl ⟨0, rfl, by omega, ⟨cX_mono (q := (q + 1)) (show cX (q + 1) g s p c [47] [800, 801, 802, 803, 804, 805, 806, 807, 808, 809] (n1, D2, s3, p4, c15) from ⟨hS3, hC15, hW4, FK16, (show fr s s3 [800, 801, 802, 803, 804, 805, 806, 807, 808, 809] from (fr_wk (hY6).1.2.2.2.2 (by decide)))⟩) (by omega), ((hY6).2)⟩, by intro h0; refine ⟨k9, ?_⟩; show c15 47 0 = _; rw [ec15, uc_eq]; exact k10, by intro h; exact absurd rfl h⟩
