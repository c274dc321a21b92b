/-! the class's plane, exactly -/
/-- a plane is at row y, sample x (at most w), and will end as R -/
def plI (Z : Nat → Int) (w h : Int) (S : Int → Int → Int) (R : XT) (U y x : Int) (X : XT) : Prop := vX Z w y x X ∧ bX Z X ≤ U + cb Z * (64 * y + x) ∧ ∃ n : Nat, (h - y) * 66 + (w - x) + 1 ≤ n ∧ plX Z w h S n y x X = R
def plC (Z : Nat → Int) (h : Int) (S : Int → Int → Int) (R : XT) (U y x w pc z he r : Int) (fw fm fh fa : Nat → Int) : Prop := ∃ X : XT, plI Z w h S R U y (min x w) X ∧ wrl X.1 z he r fw ∧ mrc X.2.1 fm ∧ pc = X.2.2.1 ∧ hrl (X.2.2.2, w, min x w, y) fh fa
theorem plI_s {Z : Nat → Int} {w h y x U : Int} {S : Int → Int → Int} {R X : XT} (hz : mv Z) (hI : plI Z w h S R U y x X) (hx : 0 ≤ x ∧ x < w) (hw : w ≤ 64) (hy : 0 ≤ y ∧ y < h) (hh : h ≤ 64) (hS : ∀ xx, 0 ≤ xx → xx < w → 0 ≤ S y xx ∧ S y xx ≤ Z 3017) : plI Z w h S R U y (x + stN Z w (S y) y x X) (stX Z w (S y) y x X) ∧ (1 ≤ stN Z w (S y) y x X ∧ x + stN Z w (S y) y x X ≤ w) := by
  obtain ⟨hv, hb, n, hn, hR⟩ := hI
  obtain ⟨s1, s2, s3, s4⟩ := stX_b hz hv hx hw (by omega) hS
  refine ⟨⟨s1, ?_, ?_⟩, s2⟩
  · have e : cb Z * (64 * y + (x + stN Z w (S y) y x X)) = cb Z * (64 * y + x) + cb Z * stN Z w (S y) y x X := by rw [← Int.mul_add]; congr 1; omega
    omega
  · obtain ⟨k, rfl⟩ : ∃ k, n = k + 1 := ⟨n - 1, by omega⟩
    rw [plX, if_neg (by omega), if_neg (by omega)] at hR
    exact ⟨k, by omega, hR⟩
theorem plI_r {Z : Nat → Int} {w h y x U : Int} {S : Int → Int → Int} {R X : XT} (hI : plI Z w h S R U y x X) (hx : w ≤ x ∧ x ≤ 64) (hy : 0 ≤ y ∧ y < h) (hw : 0 ≤ w ∧ w ≤ 64) (hwx : x ≤ w) : plI Z w h S R U (y + 1) 0 X := by
  obtain ⟨⟨v1, v2, v3, v4, v5⟩, hb, n, hn, hR⟩ := hI
  have hcb := cb_bd (s := Z)
  refine ⟨⟨pl_mono v1 (by omega), ?_, v3, v4, v5⟩, ?_, ?_⟩
  · intro xx yy h1 h2 h3 h4
    exact v2 xx yy h1 h2 h3 (by omega)
  · have e : cb Z * (64 * y + x) ≤ cb Z * (64 * (y + 1) + 0) := Int.mul_le_mul_of_nonneg_left (by omega) (by omega)
    omega
  · obtain ⟨k, rfl⟩ : ∃ k, n = k + 1 := ⟨n - 1, by omega⟩
    rw [plX, if_neg (by omega), if_pos hx.1] at hR
    exact ⟨k, by omega, hR⟩
theorem plI_e {Z : Nat → Int} {w h y x U : Int} {S : Int → Int → Int} {R X : XT} (hI : plI Z w h S R U y x X) (hy : h ≤ y) : X = R := by
  obtain ⟨_, _, n, hn, hR⟩ := hI
  cases n with
  | zero => exact hR
  | succ k =>
    rw [plX, if_pos hy] at hR
    exact hR
/-- what the bytes of a plane under way are at most -/
theorem plI_z {Z : Nat → Int} {w h y x U : Int} {S : Int → Int → Int} {R X : XT} (hI : plI Z w h S R U y x X) (hx : 0 ≤ x ∧ x ≤ 64) (hy : 0 ≤ y ∧ y ≤ 64) : 262144 * X.1.2.1 ≤ U + cb Z * (64 * y + x) := by
  obtain ⟨⟨v1, v2, v3, v4, _⟩, hb, _⟩ := hI
  have h1 := w_lo (size := X.1.2.1) v4
  have h2 := psi_0 (p := X.2.2.1)
  have h3 := pot_0 (s := Z) (c := X.2.1)
  have h4 : wu X.1 = w_u X.1.2.1 X.1.2.2.1 X.1.2.2.2 := rfl
  unfold bX at hb
  omega
theorem hr_st {T : Nat → Int} {w x y v : Int} {fh fa : Nat → Int} (h : hrl (T, w, x, y) fh fa) (hx : 0 ≤ x ∧ x < w) (hw : w ≤ 64) (hy : 0 ≤ y) : hrl (ua T (64 * y + x).toNat v, w, x + 1, y) (ua fh (x + 1).toNat v) fa := by
  obtain ⟨h1, h2, h3, h4, h5⟩ := h
  have hB : ∀ i : Int, 0 ≤ i → i < w → nB (ua T (64 * y + x).toNat v) i y = nB T i y := by
    intro i i0 i1
    unfold nB
    split
    · rw [ua_ne (by omega)]
    · rfl
  have h1 : fh 0 = nB T 0 y := h1
  have h2 : ∀ i : Int, 0 ≤ i → i < x → fh (i + 1).toNat = T (64 * y + i).toNat := h2
  have h3 : fa 0 = (if 1 < y then T (64 * (y - 2) + 0).toNat else 0) := h3
  have h4 : ∀ i : Int, 0 ≤ i → i < w → fa (i + 1).toNat = nB T i y := h4
  have h5 : fa (w + 1).toNat = nB T (w - 1) y := h5
  refine ⟨?_, ?_, ?_, ?_, ?_⟩
  · show ua fh (x + 1).toNat v 0 = nB (ua T (64 * y + x).toNat v) 0 y
    rw [ua_ne (by omega), hB 0 (by decide) (by omega)]
    exact h1
  · intro i i0 i1
    have i1 : i < x + 1 := i1
    show ua fh (x + 1).toNat v (i + 1).toNat = ua T (64 * y + x).toNat v (64 * y + i).toNat
    by_cases e : i = x
    · subst e
      rw [ua_eq, ua_eq]
    · rw [ua_ne (by omega), ua_ne (by omega)]
      exact h2 i i0 (by omega)
  · show fa 0 = (if 1 < y then ua T (64 * y + x).toNat v (64 * (y - 2) + 0).toNat else 0)
    rw [h3]
    split
    · rw [ua_ne (by omega)]
    · rfl
  · intro i i0 i1
    have i1 : i < w := i1
    show fa (i + 1).toNat = nB (ua T (64 * y + x).toNat v) i y
    rw [hB i i0 i1]
    exact h4 i i0 i1
  · show fa (w + 1).toNat = nB (ua T (64 * y + x).toNat v) (w - 1) y
    rw [hB (w - 1) (by omega) (by omega)]
    exact h5
theorem hr_fl {T : Nat → Int} {w x y v n : Int} {fh fa : Nat → Int} (h : hrl (T, w, x, y) fh fa) (hx : 0 ≤ x ∧ x + n ≤ w) (hn : 0 ≤ n) (hw : 1 ≤ w ∧ w ≤ 64) (hy : 0 ≤ y) : hrl (fil T (64 * y + x).toNat n v, w, x + n, y) (fil fh (x + 1).toNat n v) fa := by
  obtain ⟨h1, h2, h3, h4, h5⟩ := h
  have hB : ∀ i : Int, 0 ≤ i → i < w → nB (fil T (64 * y + x).toNat n v) i y = nB T i y := by
    intro i i0 i1
    unfold nB
    split
    · unfold fil
      rw [if_neg (by omega)]
    · rfl
  have h1 : fh 0 = nB T 0 y := h1
  have h2 : ∀ i : Int, 0 ≤ i → i < x → fh (i + 1).toNat = T (64 * y + i).toNat := h2
  have h3 : fa 0 = (if 1 < y then T (64 * (y - 2) + 0).toNat else 0) := h3
  have h4 : ∀ i : Int, 0 ≤ i → i < w → fa (i + 1).toNat = nB T i y := h4
  have h5 : fa (w + 1).toNat = nB T (w - 1) y := h5
  refine ⟨?_, ?_, ?_, ?_, ?_⟩
  · show fil fh (x + 1).toNat n v 0 = nB (fil T (64 * y + x).toNat n v) 0 y
    rw [hB 0 (by decide) (by omega)]
    unfold fil
    rw [if_neg (by omega)]
    exact h1
  · intro i i0 i1
    have i1 : i < x + n := i1
    show fil fh (x + 1).toNat n v (i + 1).toNat = fil T (64 * y + x).toNat n v (64 * y + i).toNat
    unfold fil
    by_cases e : x ≤ i
    · rw [if_pos (by omega), if_pos (by omega)]
    · rw [if_neg (by omega), if_neg (by omega)]
      exact h2 i i0 (by omega)
  · show fa 0 = (if 1 < y then fil T (64 * y + x).toNat n v (64 * (y - 2) + 0).toNat else 0)
    rw [h3]
    split
    · unfold fil
      rw [if_neg (by omega)]
    · rfl
  · intro i i0 i1
    have i1 : i < w := i1
    show fa (i + 1).toNat = nB (fil T (64 * y + x).toNat n v) i y
    rw [hB i i0 i1]
    exact h4 i i0 i1
  · show fa (w + 1).toNat = nB (fil T (64 * y + x).toNat n v) (w - 1) y
    rw [hB (w - 1) (by omega) (by omega)]
    exact h5
/-- a row that is told to its end -/
theorem hr_e {T : Nat → Int} {w y : Int} {fh fa : Nat → Int} (h : hrl (T, w, w, y) fh fa) (hy : 0 ≤ y) (hw : 1 ≤ w) : hE T w (y + 1) fh := by
  obtain ⟨h1, h2, _⟩ := h
  have h1 : fh 0 = nB T 0 y := h1
  have h2 : ∀ i : Int, 0 ≤ i → i < w → fh (i + 1).toNat = T (64 * y + i).toNat := h2
  refine ⟨?_, ?_⟩
  · rw [h1]
    unfold nB
    by_cases e : 0 < y
    · rw [if_pos e, if_pos (by omega)]
      congr 2
      omega
    · rw [if_neg e, if_neg (by omega)]
  · intro i i0 i1
    rw [h2 i i0 i1]
    unfold nB
    rw [if_pos (by omega)]
    congr 2
    omega
