/-! samples of a canvas -/
def cv (E : Int → Int → Int → Int) (w h pl : Int) (f : Nat → Int) : Prop := ∀ a y x, (0 ≤ a ∧ a < pl) → (0 ≤ y ∧ y < h) → (0 ≤ x ∧ x < w) → f ((a * h + y) * w + x).toNat = E a y x
def cr (E : Int → Int → Int → Int) (w h pl : Int) (f : Nat → Int) : Prop := ∀ a y x, (0 ≤ a ∧ a < pl) → (0 ≤ y ∧ y < h) → (0 ≤ x ∧ x < w) → f (4096 * a + 64 * y + x).toNat = E a y x
def uE (E : Int → Int → Int → Int) (a0 y0 x0 v : Int) : Int → Int → Int → Int := fun a y x => if a = a0 ∧ y = y0 ∧ x = x0 then v else E a y x
theorem ix_inj {a a2 h y y2 w x x2 : Int} (y0 : 0 ≤ y ∧ y < h) (y1 : 0 ≤ y2 ∧ y2 < h) (x0 : 0 ≤ x ∧ x < w) (x1 : 0 ≤ x2 ∧ x2 < w) (e : (a * h + y) * w + x = (a2 * h + y2) * w + x2) : a = a2 ∧ y = y2 ∧ x = x2 := by
  have m1 : ((a * h + y) * w + x) / w = a * h + y := by rw [Int.add_comm, Int.add_mul_ediv_right _ _ (by omega), Int.ediv_eq_zero_of_lt x0.1 x0.2, Int.zero_add]
  have m2 : ((a2 * h + y2) * w + x2) / w = a2 * h + y2 := by rw [Int.add_comm, Int.add_mul_ediv_right _ _ (by omega), Int.ediv_eq_zero_of_lt x1.1 x1.2, Int.zero_add]
  have e1 : a * h + y = a2 * h + y2 := by rw [← m1, ← m2, e]
  have m3 : (a * h + y) / h = a := by rw [Int.add_comm, Int.add_mul_ediv_right _ _ (by omega), Int.ediv_eq_zero_of_lt y0.1 y0.2, Int.zero_add]
  have m4 : (a2 * h + y2) / h = a2 := by rw [Int.add_comm, Int.add_mul_ediv_right _ _ (by omega), Int.ediv_eq_zero_of_lt y1.1 y1.2, Int.zero_add]
  have e2 : a = a2 := by rw [← m3, ← m4, e1]
  subst e2
  rw [e1] at e
  exact ⟨rfl, by omega, by omega⟩
theorem ix_nn {a h y w x : Int} (a0 : 0 ≤ a) (y0 : 0 ≤ y ∧ y < h) (x0 : 0 ≤ x ∧ x < w) : 0 ≤ (a * h + y) * w + x := by
  have h1 : 0 ≤ a * h := Int.mul_nonneg a0 (by omega)
  have h2 : 0 ≤ (a * h + y) * w := Int.mul_nonneg (by omega) (by omega)
  omega
theorem cv_st {E : Int → Int → Int → Int} {w h pl a y x v : Int} {f : Nat → Int} (hc : cv E w h pl f) (ha : 0 ≤ a ∧ a < pl) (hy : 0 ≤ y ∧ y < h) (hx : 0 ≤ x ∧ x < w) {i : Int} (hi : i = (a * h + y) * w + x) : cv (uE E a y x v) w h pl (ua f i.toNat v) := by
  intro a2 y2 x2 h1 h2 h3
  subst hi
  unfold uE ua
  have n1 := ix_nn ha.1 hy hx
  have n2 := ix_nn h1.1 h2 h3
  by_cases e : a2 = a ∧ y2 = y ∧ x2 = x
  · rw [if_pos e, if_pos (by rw [e.1, e.2.1, e.2.2])]
  · rw [if_neg e, if_neg (fun e2 => e (ix_inj h2 hy h3 hx (by omega)))]
    exact hc a2 y2 x2 h1 h2 h3
theorem cr_st {E : Int → Int → Int → Int} {w h pl a y x v : Int} {f : Nat → Int} (hc : cr E w h pl f) (hw : w ≤ 64 ∧ h ≤ 64) (ha : 0 ≤ a ∧ a < pl) (hy : 0 ≤ y ∧ y < h) (hx : 0 ≤ x ∧ x < w) {i : Int} (hi : i = 4096 * a + 64 * y + x) : cr (uE E a y x v) w h pl (ua f i.toNat v) := by
  intro a2 y2 x2 h1 h2 h3
  subst hi
  unfold uE ua
  by_cases e : a2 = a ∧ y2 = y ∧ x2 = x
  · rw [if_pos e, if_pos (by rw [e.1, e.2.1, e.2.2])]
  · rw [if_neg e, if_neg (by omega)]
    exact hc a2 y2 x2 h1 h2 h3
theorem cv_eq {E F : Int → Int → Int → Int} {w h pl : Int} {f : Nat → Int} (hc : cv E w h pl f) (e : ∀ a y x, E a y x = F a y x) : cv F w h pl f := fun a y x h1 h2 h3 => (hc a y x h1 h2 h3).trans (e a y x)
theorem cr_eq {E F : Int → Int → Int → Int} {w h pl : Int} {f : Nat → Int} (hc : cr E w h pl f) (e : ∀ a y x, E a y x = F a y x) : cr F w h pl f := fun a y x h1 h2 h3 => (hc a y x h1 h2 h3).trans (e a y x)
/-- what draw lays at row j, column i of its stretch -/
def dv (wide high v u mask gr j i : Int) : Int := max 0 (min gr (v + Int.tdiv ((u - v) * (i + j)) (wide + high) + mi_and (mi_ushr (((i + wide * j) * 40503 + 12345) * ((i + wide * j) * 40503 + 12345)) 7) mask))
/-- the canvas when draw is at row j, column i -/
def dE (E : Int → Int → Int → Int) (a x y wide high v u mask gr j i : Int) : Int → Int → Int → Int := fun a2 y2 x2 => if a2 = a ∧ (0 ≤ y2 - y ∧ 0 ≤ x2 - x ∧ x2 - x < wide) ∧ (y2 - y < j ∨ (y2 - y = j ∧ x2 - x < i)) then dv wide high v u mask gr (y2 - y) (x2 - x) else E a2 y2 x2
theorem dE_0 {E : Int → Int → Int → Int} {a x y wide high v u mask gr : Int} (a2 y2 x2 : Int) : E a2 y2 x2 = dE E a x y wide high v u mask gr 0 0 a2 y2 x2 := by
  unfold dE
  rw [if_neg (by omega)]
theorem dE_i {E : Int → Int → Int → Int} {a x y wide high v u mask gr j i : Int} (hj : 0 ≤ j) (hi : 0 ≤ i ∧ i < wide) (a2 y2 x2 : Int) : uE (dE E a x y wide high v u mask gr j i) a (y + j) (x + i) (dv wide high v u mask gr j i) a2 y2 x2 = dE E a x y wide high v u mask gr j (i + 1) a2 y2 x2 := by
  unfold uE dE
  by_cases e : a2 = a ∧ y2 = y + j ∧ x2 = x + i
  · obtain ⟨e1, e2, e3⟩ := e
    rw [if_pos ⟨e1, e2, e3⟩, if_pos (by omega), show y2 - y = j by omega, show x2 - x = i by omega]
  · rw [if_neg e]
    by_cases e2 : a2 = a ∧ (0 ≤ y2 - y ∧ 0 ≤ x2 - x ∧ x2 - x < wide) ∧ (y2 - y < j ∨ (y2 - y = j ∧ x2 - x < i))
    · rw [if_pos e2, if_pos (by omega)]
    · rw [if_neg e2, if_neg (by omega)]
theorem dE_j {E : Int → Int → Int → Int} {a x y wide high v u mask gr j i : Int} (hi : wide ≤ i) (a2 y2 x2 : Int) : dE E a x y wide high v u mask gr j i a2 y2 x2 = dE E a x y wide high v u mask gr (j + 1) 0 a2 y2 x2 := by
  unfold dE
  by_cases e2 : a2 = a ∧ (0 ≤ y2 - y ∧ 0 ≤ x2 - x ∧ x2 - x < wide) ∧ (y2 - y < j ∨ (y2 - y = j ∧ x2 - x < i))
  · rw [if_pos e2, if_pos (by omega)]
  · rw [if_neg e2, if_neg (by omega)]
