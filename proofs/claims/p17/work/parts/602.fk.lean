/-! rows by their keys: which change, which stay -/
/-- the numbers that change until a refusal -/
def LXR : List Nat := [902, 1705, 1706, 2500, 2501, 2502, 2503, 2700, 2701, 2702, 2703, 800, 801, 802, 803, 804, 805, 806, 807, 808, 809, 2001, 2002, 2003, 2004, 2005, 2006, 2106, 2107, 2108, 2109, 2110, 2111, 2112, 2113, 2114, 2115, 2116]
theorem uc_uc {c : Nat → Nat → Int} {a : Nat} {f g : Nat → Int} : uc (uc c a f) a g = uc c a g := by
  funext j
  by_cases h : j = a
  · subst h; rw [uc_eq, uc_eq]
  · rw [uc_ne h, uc_ne h, uc_ne h]
theorem uc_id {c : Nat → Nat → Int} {a : Nat} : uc c a (c a) = c := by
  funext j
  by_cases h : j = a
  · subst h; rw [uc_eq]
  · rw [uc_ne h]
def AK : List Nat := [3, 18, 19, 31, 32, 33, 34, 35, 36, 37, 38, 39, 40, 41, 42, 43, 44, 45, 46, 47, 104, 400, 600, 900, 901, 1203, 1204, 2103, 2104, 2504, 2704]
def ad (p : Nat → Nat) (k : Nat) : Nat := cond (Nat.ble 48 k) (p k) k
def wd (n : Nat) (p : Nat → Nat) : Prop := (∀ k ∈ AK, ad p k < 48 + n) ∧ ∀ k ∈ AK, ∀ j ∈ AK, k ≠ j → ad p k ≠ ad p j
def fk (p : Nat → Nat) (c : Nat → Nat → Int) (n1 : Nat) (p1 : Nat → Nat) (c1 : Nat → Nat → Int) (K : List Nat) : Prop := wd n1 p1 ∧ ∀ k ∈ AK, k ∉ K → c1 (ad p1 k) = c (ad p k)
theorem ad_ne {p : Nat → Nat} {k j v : Nat} (h : j ≠ k) : ad (up p k v) j = ad p j := by
  unfold ad
  rw [up_ne h]
theorem ad_eq {p : Nat → Nat} {k v : Nat} (h : Nat.ble 48 k = true) : ad (up p k v) k = v := by
  unfold ad
  rw [h, up_eq]
  rfl
theorem ad_p {p : Nat → Nat} {k : Nat} (h : Nat.ble 48 k = true) : ad p k = p k := by
  unfold ad
  rw [h]
  rfl
theorem ad_c {p : Nat → Nat} {k : Nat} (h : Nat.ble 48 k = false) : ad p k = k := by
  unfold ad
  rw [h]
  rfl
section FK
variable {n n1 n2 : Nat} {p p1 p2 : Nat → Nat} {c c1 c2 : Nat → Nat → Int} {K K1 : List Nat} {f : Nat → Int}
theorem fk_rf (h : wd n p) : fk p c n p c K := ⟨h, fun _ _ _ => rfl⟩
theorem fk_tr (h : fk p c n1 p1 c1 K) (h1 : fk p1 c1 n2 p2 c2 K1) (hs : ∀ x ∈ K1, x ∈ K) : fk p c n2 p2 c2 K := ⟨h1.1, fun k hk hn => (h1.2 k hk (fun e => hn (hs k e))).trans (h.2 k hk hn)⟩
theorem fk_st {k a : Nat} (h : fk p c n1 p1 c1 K) (e : c2 = uc c1 a f) (hk : k ∈ AK ∧ k ∈ K) (ha : ad p1 k = a) : fk p c n1 p1 c2 K := by
  subst e
  refine ⟨h.1, fun j hj hn => ?_⟩
  have hne : j ≠ k := fun e2 => hn (by rw [e2]; exact hk.2)
  rw [uc_ne (by rw [← ha]; exact h.1.2 j hj k hk.1 hne)]
  exact h.2 j hj hn
theorem wd_le (h : wd n p) : wd (n + 1) p := ⟨fun k hk => Nat.lt_succ_of_lt (h.1 k hk), h.2⟩
theorem fk_nw (h : fk p c n1 p1 c1 K) (e : c2 = uc c1 (48 + n1) f) : fk p c (n1 + 1) p1 c2 K := by
  subst e
  refine ⟨wd_le h.1, fun j hj hn => ?_⟩
  rw [uc_ne (Nat.ne_of_lt (h.1.1 j hj))]
  exact h.2 j hj hn
theorem fk_x (h : fk p c n1 p1 c1 K) : fk p c (n1 + 1) p1 c1 K := ⟨wd_le h.1, h.2⟩
theorem fk_np {k : Nat} (h : fk p c n1 p1 c1 K) (hk : k ∈ AK ∧ k ∈ K ∧ Nat.ble 48 k = true) (e : c2 = uc c1 (48 + n1) f) : fk p c (n1 + 1) (up p1 k (48 + n1)) c2 K := by
  subst e
  have hb : ∀ j ∈ AK, ad (up p1 k (48 + n1)) j < 48 + (n1 + 1) := by
    intro j hj
    by_cases e : j = k
    · subst e
      rw [ad_eq hk.2.2]
      omega
    · rw [ad_ne e]
      exact Nat.lt_succ_of_lt (h.1.1 j hj)
  refine ⟨⟨hb, fun i hi j hj hij => ?_⟩, fun j hj hn => ?_⟩
  · by_cases e : i = k
    · subst e
      rw [ad_eq hk.2.2, ad_ne (fun e => hij e.symm)]
      exact (Nat.ne_of_lt (h.1.1 j hj)).symm
    · rw [ad_ne e]
      by_cases e2 : j = k
      · subst e2
        rw [ad_eq hk.2.2]
        exact Nat.ne_of_lt (h.1.1 i hi)
      · rw [ad_ne e2]
        exact h.1.2 i hi j hj hij
  · have hne : j ≠ k := fun e => hn (by rw [e]; exact hk.2.1)
    rw [ad_ne hne, uc_ne (Nat.ne_of_lt (h.1.1 j hj))]
    exact h.2 j hj hn
theorem fk_up {k v : Nat} (hk : k ∉ AK) (h : fk p c n1 p1 c1 K) : fk p c n1 (up p1 k v) c1 K := by
  have e : ∀ j ∈ AK, ad (up p1 k v) j = ad p1 j := fun j hj => ad_ne (fun e => hk (by rw [← e]; exact hj))
  refine ⟨⟨fun j hj => by rw [e j hj]; exact h.1.1 j hj, fun i hi j hj hij => by rw [e i hi, e j hj]; exact h.1.2 i hi j hj hij⟩, fun j hj hn => by rw [e j hj]; exact h.2 j hj hn⟩
theorem fk_sw {k j : Nat} (h : fk p c n1 p1 c1 K) (hk : (k ∈ AK ∧ k ∈ K ∧ Nat.ble 48 k = true) ∧ (j ∈ AK ∧ j ∈ K ∧ Nat.ble 48 j = true) ∧ k ≠ j) : fk p c n1 (up (up p1 k (p1 j)) j (p1 k)) c1 K := by
  obtain ⟨⟨k1, k2, k3⟩, ⟨j1, j2, j3⟩, hkj⟩ := hk
  have ek : ad (up (up p1 k (p1 j)) j (p1 k)) k = ad p1 j := by rw [ad_ne hkj, ad_eq k3, ad_p j3]
  have ej : ad (up (up p1 k (p1 j)) j (p1 k)) j = ad p1 k := by rw [ad_eq j3, ad_p k3]
  have eo : ∀ i, i ≠ k → i ≠ j → ad (up (up p1 k (p1 j)) j (p1 k)) i = ad p1 i := fun i h1 h2 => by rw [ad_ne h2, ad_ne h1]
  refine ⟨⟨fun i hi => ?_, fun i hi l hl hil => ?_⟩, fun i hi hn => ?_⟩
  · by_cases e : i = k
    · rw [e, ek]; exact h.1.1 j j1
    · by_cases e2 : i = j
      · rw [e2, ej]; exact h.1.1 k k1
      · rw [eo i e e2]; exact h.1.1 i hi
  · have T : ∀ i ∈ AK, ∃ t ∈ AK, ad (up (up p1 k (p1 j)) j (p1 k)) i = ad p1 t ∧ ((i = k ∧ t = j) ∨ (i = j ∧ t = k) ∨ (i ≠ k ∧ i ≠ j ∧ t = i)) := by
      intro i hi
      by_cases e : i = k
      · exact ⟨j, j1, by rw [e, ek], Or.inl ⟨e, rfl⟩⟩
      · by_cases e2 : i = j
        · exact ⟨k, k1, by rw [e2, ej], Or.inr (Or.inl ⟨e2, rfl⟩)⟩
        · exact ⟨i, hi, eo i e e2, Or.inr (Or.inr ⟨e, e2, rfl⟩)⟩
    obtain ⟨t, t1, t2, t3⟩ := T i hi
    obtain ⟨u, u1, u2, u3⟩ := T l hl
    rw [t2, u2]
    apply h.1.2 t t1 u u1
    intro e
    apply hil
    omega
  · rw [eo i (fun e => hn (by rw [e]; exact k2)) (fun e => hn (by rw [e]; exact j2))]
    exact h.2 i hi hn
theorem fk_rc {A : List Nat} (h : wd n p) (g : frc c c1 A) (hA : ∀ a ∈ A, a ∈ AK ∧ Nat.ble 48 a = false) : fk p c n p c1 A := by
  refine ⟨h, fun k hk hn => g _ (fun hm => ?_)⟩
  have h1 := hA _ hm
  have h2 : ad p (ad p k) = ad p k := ad_c h1.2
  by_cases e : k = ad p k
  · exact hn (by rw [e]; exact hm)
  · exact h.2 k hk _ h1.1 e h2.symm
/-- row k is as it was -/
theorem fk_k {k : Nat} (h : fk p c n1 p1 c1 K) (hk : k ∈ AK ∧ k ∉ K ∧ Nat.ble 48 k = true) : c1 (p1 k) = c (p k) := by
  have h1 := h.2 k hk.1 hk.2.1
  rw [ad_p hk.2.2, ad_p hk.2.2] at h1
  exact h1
theorem fk_c {k : Nat} (h : fk p c n1 p1 c1 K) (hk : k ∈ AK ∧ k ∉ K ∧ Nat.ble 48 k = false) : c1 k = c k := by
  have h1 := h.2 k hk.1 hk.2.1
  rw [ad_c hk.2.2, ad_c hk.2.2] at h1
  exact h1
end FK
/-- the class's world at a time, which rows and which numbers are as they were -/
def cX (q : Nat) (g : Nat → Int) (s : Nat → Int) (p : Nat → Nat) (c : Nat → Nat → Int) (K L : List Nat) (H : mi_H) : Prop := bS H.2.2.1 ∧ bC H.2.1 H.2.2.2.2 ∧ wp q g H.1 H.2.1 H.2.2.2.1 H.2.2.1 ∧ fk p c H.1 H.2.2.2.1 H.2.2.2.2 K ∧ fr s H.2.2.1 L
theorem fr_wk {s s1 : Nat → Int} {L L1 : List Nat} (h : fr s s1 L) (hs : ∀ x ∈ L, x ∈ L1) : fr s s1 L1 := fun k hk => h k (fun e => hk (hs k e))
theorem cX_mono {q q' : Nat} {g s : Nat → Int} {p : Nat → Nat} {c : Nat → Nat → Int} {K L : List Nat} {H : mi_H} (h : cX q g s p c K L H) (hq : q ≤ q') : cX q' g s p c K L H := ⟨h.1, h.2.1, wp_q h.2.2.1 hq, h.2.2.2⟩
theorem cX_tr {q n1 : Nat} {g s s1 : Nat → Int} {p p1 : Nat → Nat} {c c1 : Nat → Nat → Int} {K K1 L0 L L1 : List Nat} {H : mi_H} (f : fk p c n1 p1 c1 K) (e : fr s s1 L0) (h : cX q g s1 p1 c1 K1 L1 H) (hs : ∀ x ∈ K1, x ∈ K) (hl : (∀ x ∈ L0, x ∈ L) ∧ ∀ x ∈ L1, x ∈ L) : cX q g s p c K L H := ⟨h.1, h.2.1, h.2.2.1, fk_tr f h.2.2.2.1 hs, fr_tr (fr_wk e hl.1) h.2.2.2.2 hl.2⟩
theorem cX_trx {q n1 : Nat} {g s s1 : Nat → Int} {p p1 : Nat → Nat} {c c1 : Nat → Nat → Int} {K K1 : List Nat} {H : mi_H} (f : fk p c n1 p1 c1 K) (e : fr s s1 LXR) (h : cX q g s1 p1 c1 K1 LXR H) (hs : ∀ x ∈ K1, x ∈ K) : cX q g s p c K LXR H := ⟨h.1, h.2.1, h.2.2.1, fk_tr f h.2.2.2.1 hs, fr_tr e h.2.2.2.2 (fun _ h => h)⟩
/-- as cX, and the picture that is shown is the same -/
def cXp (q : Nat) (g : Nat → Int) (s : Nat → Int) (p : Nat → Nat) (c : Nat → Nat → Int) (K L : List Nat) (H : mi_H) : Prop := cX q g s p c K L H ∧ H.2.2.2.1 8 = p 8
theorem cXp_mono {q q' : Nat} {g s : Nat → Int} {p : Nat → Nat} {c : Nat → Nat → Int} {K L : List Nat} {H : mi_H} (h : cXp q g s p c K L H) (hq : q ≤ q') : cXp q' g s p c K L H := ⟨cX_mono h.1 hq, h.2⟩
theorem cX_trl {q n1 : Nat} {g s s1 : Nat → Int} {p p1 : Nat → Nat} {c c1 : Nat → Nat → Int} {K K1 L L1 : List Nat} {H : mi_H} (f : fk p c n1 p1 c1 K) (e : fr s s1 L) (h : cX q g s1 p1 c1 K1 L1 H) (hs : ∀ x ∈ K1, x ∈ K) (hl : ∀ x ∈ L1, x ∈ L) : cX q g s p c K L H := ⟨h.1, h.2.1, h.2.2.1, fk_tr f h.2.2.2.1 hs, fr_tr e h.2.2.2.2 hl⟩
theorem cXp_tr {q n1 : Nat} {g s s1 : Nat → Int} {p p1 : Nat → Nat} {c c1 : Nat → Nat → Int} {K K1 L L1 : List Nat} {H : mi_H} (f : fk p c n1 p1 c1 K) (e : fr s s1 L) (e8 : p1 8 = p 8) (h : cXp q g s1 p1 c1 K1 L1 H) (hs : ∀ x ∈ K1, x ∈ K) (hl : ∀ x ∈ L1, x ∈ L) : cXp q g s p c K L H := ⟨cX_trl f e h.1 hs hl, h.2.trans e8⟩
