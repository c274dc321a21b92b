/-! the samples told so far are not above MOST -/
theorem ua_all {f : Nat → Int} {k v : Int} (hf : ∀ i : Nat, (i : Int) < k → f i = v) (hk : 0 ≤ k) : ∀ i : Nat, (i : Int) < k + 1 → ua f k.toNat v i = v := by
  intro i hi
  by_cases h : i = k.toNat
  · subst h; exact ua_eq
  · rw [ua_ne h]; exact hf i (by omega)
def tb (w base most : Int) (f : Nat → Int) (x y : Int) : Prop := ∀ xx yy : Int, 0 ≤ xx → xx < w → 0 ≤ yy → (yy < y ∨ (yy = y ∧ xx < x)) → 0 ≤ f (base + 64 * yy + xx).toNat ∧ f (base + 64 * yy + xx).toNat ≤ most
theorem tb_next {w base most x y v : Int} {f : Nat → Int} (h : tb w base most f x y) (hw : w ≤ 64) (hb : 0 ≤ base) (hx : 0 ≤ x ∧ x < w) (hy : 0 ≤ y) (hv : 0 ≤ v ∧ v ≤ most) : tb w base most (ua f (base + 64 * y + x).toNat v) (x + 1) y := by
  intro xx yy h1 h2 h3 h4
  by_cases e : yy = y ∧ xx = x
  · obtain ⟨rfl, rfl⟩ := e
    rw [ua_eq]
    exact hv
  · rw [ua_ne (by omega)]
    exact h xx yy h1 h2 h3 (by omega)
theorem tb_row {w base most x y : Int} {f : Nat → Int} (h : tb w base most f x y) (hx : w ≤ x) : tb w base most f 0 (y + 1) := by
  intro xx yy h1 h2 h3 h4
  exact h xx yy h1 h2 h3 (by omega)
theorem tb_0 {w base most : Int} {f : Nat → Int} : tb w base most f 0 0 := by
  intro xx yy h1 h2 h3 h4
  omega
theorem tb_mono {w base most x x' y : Int} {f : Nat → Int} (h : tb w base most f x y) (hx : x' ≤ x) : tb w base most f x' y := by
  intro xx yy h1 h2 h3 h4
  exact h xx yy h1 h2 h3 (by omega)
/-- a stretch of a row -/
theorem tb_fill {w base most x y n v : Int} {f f' : Nat → Int} (h : tb w base most f x y) (hw : w ≤ 64) (hb : 0 ≤ base) (hx : 0 ≤ x) (hn : 0 ≤ n) (hxn : x + n ≤ w) (hy : 0 ≤ y) (hv : 0 ≤ v ∧ v ≤ most) (h1 : ∀ i : Nat, (i : Int) < base + 64 * y + x ∨ base + 64 * y + x + n ≤ i → f' i = f i) (h2 : ∀ i : Nat, base + 64 * y + x ≤ i → (i : Int) < base + 64 * y + x + n → f' i = v) : tb w base most f' (x + n) y := by
  intro xx yy g1 g2 g3 g4
  by_cases e : yy = y ∧ x ≤ xx
  · obtain ⟨rfl, e2⟩ := e
    rw [h2 _ (by omega) (by omega)]
    exact hv
  · rw [h1 _ (by omega)]
    exact h xx yy g1 g2 g3 (by omega)
/-- the potential looks at two rows and two fields alone -/
theorem pot_eq {s s' : Nat → Int} {c c' : Nat → Nat → Int} (h1 : s' 3025 = s 3025) (h2 : s' 3026 = s 3026) (h3 : c' 36 = c 36) (h4 : c' 39 = c 39) : pot s' c' = pot s c := by
  have e : potf s' c' = potf s c := by
    funext i
    unfold potf qq
    rw [h1, h3, h4]
  unfold pot
  rw [h2, e]
theorem pl_eq {s s' : Nat → Int} {t : Int} {c c' : Nat → Nat → Int} (h1 : s' 3025 = s 3025) (h3 : c' 36 = c 36) (h4 : c' 37 = c 37) (h5 : c' 38 = c 38) (h6 : c' 39 = c 39) (h : pl s t c) : pl s' t c' := by
  intro i hi
  have h7 := h i hi
  unfold pli qq at h7 ⊢
  rw [h1, h3, h4, h5, h6]
  exact h7
theorem ua_seg {f : Nat → Int} {a k v : Int} (hf : ∀ i : Nat, a ≤ i → (i : Int) < a + k → f i = v) (h0 : 0 ≤ a + k) : ∀ i : Nat, a ≤ i → (i : Int) < a + (k + 1) → ua f (a + k).toNat v i = v := by
  intro i h1 h2
  by_cases h : i = (a + k).toNat
  · subst h; exact ua_eq
  · rw [ua_ne h]; exact hf i h1 (by omega)
theorem tdv_bd {x y a : Int} (h0 : -a ≤ x) (h1 : x ≤ a) (hy : 0 < y) : -a ≤ x.tdiv y ∧ x.tdiv y ≤ a := by
  rcases Int.le_total 0 x with h | h
  · rw [Int.tdiv_eq_ediv_of_nonneg h]
    have := td_le h hy
    omega
  · have e : x.tdiv y = -((-x).tdiv y) := by rw [Int.neg_tdiv, Int.neg_neg]
    have h2 : 0 ≤ -x := by omega
    rw [e, Int.tdiv_eq_ediv_of_nonneg h2]
    have := td_le h2 hy
    omega
