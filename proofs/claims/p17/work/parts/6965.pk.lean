/-! a packed row as numbers alone -/
def pTwo (W : WT) (v : Int) : WT := wAdd (wAdd W (mi_shr v 8)) v
def pMk (W : WT) (v : Int) : WT := wAdd (wAdd W 255) v
def pFr : Nat → Int → WT → WT
  | 0, _, W => W
  | n + 1, p, W => pFr n (p + 1) (wAdd (wAdd (wAdd W (p + 1)) 17) 0)
def pFm (w h pl dp : Int) (W : WT) : WT := pFr pl.toNat 0 (wAdd (pTwo (pTwo (wAdd (pTwo (pMk W 247) (8 + 3 * pl)) dp) h) w) pl)
def f5 (f0 f1 f2 f3 f4 : Int) (i : Int) : Int := if i = 0 then f0 else if i = 1 then f1 else if i = 2 then f2 else if i = 3 then f3 else f4
def pMl (F : Int → Int) : Nat → Int → WT → WT
  | 0, _, W => W
  | n + 1, i, W => pMl F n (i + 1) (pTwo W (F i))
def pMe (f0 f1 f2 f3 f4 : Int) (W : WT) : WT := pMl (f5 f0 f1 f2 f3 f4) 5 0 (wAdd (pTwo (pMk W 248) 13) 1)
def pMs (f0 f1 f2 f3 f4 : Int) (W : WT) : WT := if f0 = 0 ∧ f1 = 0 ∧ f2 = 0 ∧ f3 = 0 ∧ f4 = 0 then W else pMe f0 f1 f2 f3 f4 W
def pSc (p n : Int) (W : WT) : WT := wAdd (wAdd (wAdd (wAdd (wAdd (wAdd (pTwo (pMk W 218) 8) 1) (p + 1)) 0) n) 0) 0
def pX0 (Z : Nat → Int) (W : WT) : XT := ((W.1, W.2.1, 0, 8), mB (Z 3024), 0, fun _ => 0)
def pPl (Z : Nat → Int) (w h : Int) (E : Int → Int → Int → Int) (nr : Int) : Nat → Int → WT → WT
  | 0, _, W => W
  | n + 1, p, W => pPl Z w h E nr n (p + 1) (wFin (plX Z w h (E p) 5000 0 0 (pX0 Z (pSc p nr W))).1)
def W00 : WT := (fun _ => 0, 0, 0, 8)
/-- the packed row: measures, shape, near, samples -/
def PK (f0 f1 f2 f3 f4 w h pl dp n : Int) (E : Int → Int → Int → Int) : WT := pMk (pPl (ZM f0 f1 f2 f3 f4 dp n) w h E n pl.toNat 0 (pMs f0 f1 f2 f3 f4 (pFm w h pl dp (pMk W00 216)))) 217
/-- no sample is above most -/
def AB (E : Int → Int → Int → Int) (w h pl mo : Int) : Prop := ∀ a y x : Int, (0 ≤ a ∧ a < pl) → (0 ≤ y ∧ y < h) → (0 ≤ x ∧ x < w) → E a y x ≤ mo
theorem f5_of {f : Nat → Int} {i : Int} (hi : 0 ≤ i ∧ i < 5) : f i.toNat = f5 (f 0) (f 1) (f 2) (f 3) (f 4) i := by
  have e : i = 0 ∨ i = 1 ∨ i = 2 ∨ i = 3 ∨ i = 4 := by omega
  rcases e with rfl | rfl | rfl | rfl | rfl <;> rfl
theorem AB_c {E : Int → Int → Int → Int} {w h pl mo : Int} {f : Nat → Int} (hE : cv E w h pl f) (hw : 1 ≤ w ∧ w ≤ 64) (hh : 1 ≤ h ∧ h ≤ 64) (hp : 1 ≤ pl ∧ pl ≤ 3) (h0 : ∀ j : Int, 0 ≤ j → j < w * h * pl → f j.toNat ≤ mo) : AB E w h pl mo := by
  intro a y x ha hy hx
  have hb := ix_bd (a := a) (h := h) (y := y) (w := w) (x := x) (pl := pl) ha.1 ha.2 hy.1 hy.2 hx.1 hx.2 hw.2 hh.2 hp.2
  rw [← hE a y x ha hy hx]
  exact h0 _ (by omega) (by omega)
theorem AB_n {E : Int → Int → Int → Int} {w h pl mo : Int} {f : Nat → Int} (hE : cv E w h pl f) (hw : 1 ≤ w ∧ w ≤ 64) (hh : 1 ≤ h ∧ h ≤ 64) (h0 : ∃ j : Int, (0 ≤ j ∧ j < w * h * pl) ∧ mo < f j.toNat) : ¬ AB E w h pl mo := by
  obtain ⟨j, ⟨j0, j1⟩, hj⟩ := h0
  intro hA
  have e1 := Int.mul_ediv_add_emod j w
  have e2 := Int.mul_ediv_add_emod (j / w) h
  have x0 := Int.emod_nonneg j (show w ≠ 0 by omega)
  have x1 := Int.emod_lt_of_pos j (show 0 < w by omega)
  have y0 := Int.emod_nonneg (j / w) (show h ≠ 0 by omega)
  have y1 := Int.emod_lt_of_pos (j / w) (show 0 < h by omega)
  have d0 : 0 ≤ j / w := Int.ediv_nonneg j0 (by omega)
  have a0 : 0 ≤ j / w / h := Int.ediv_nonneg d0 (by omega)
  have d1 : j / w < h * pl := Int.ediv_lt_of_lt_mul (by omega) (by rw [Int.mul_comm]; rw [← Int.mul_assoc]; exact j1)
  have a1 : j / w / h < pl := Int.ediv_lt_of_lt_mul (by omega) (by rw [Int.mul_comm]; exact d1)
  have h1 := hA (j / w / h) (j / w % h) (j % w) ⟨a0, a1⟩ ⟨y0, y1⟩ ⟨x0, x1⟩
  rw [← hE _ _ _ ⟨a0, a1⟩ ⟨y0, y1⟩ ⟨x0, x1⟩] at h1
  have e3 : (j / w / h * h + j / w % h) * w + j % w = j := by
    rw [Int.mul_comm (j / w / h) h, e2, Int.mul_comm (j / w) w, e1]
  rw [e3] at h1
  omega
theorem wJ_0 {Z : Nat → Int} {V : WT} (h : 0 ≤ V.2.1) : wJ (pX0 Z (wAdd V 0)).1 := by
  refine ⟨w_ok0 (Or.inr rfl), ?_, fun hl => ?_⟩
  · show 1 ≤ V.2.1 + 1
    omega
  · have hl : ua V.1 V.2.1.toNat (nb 0) (V.2.1 + 1 - 1).toNat % 256 = 255 := hl
    rw [show V.2.1 + 1 - 1 = V.2.1 by omega, ua_eq, nb_256 (by decide)] at hl
    omega
theorem pX0_b {Z : Nat → Int} {W : WT} (hz : mv Z) : bX Z (pX0 Z W) + cb Z * 4096 ≤ 262144 * W.2.1 + 5676785664 := by
  have hpb := (pl_begin (s := Z) (c := mB (Z 3024)) hz (fun i _ => rfl) (fun i _ => rfl) (fun i _ => rfl) (fun i _ => rfl)).2
  have e : bX Z (pX0 Z W) = 4096 * (w_u W.2.1 0 8 + psi 0) + pot Z (mB (Z 3024)) := rfl
  have e2 : psi 0 = 0 := by decide
  have e3 := w_u08 (x := W.2.1)
  have e4 : cb Z * 4096 = 4096 * cb Z := Int.mul_comm _ _
  rw [e, e2, e3, e4]
  omega
/-- what is kept behind the planes -/
def pKp (Z : Nat → Int) (w h : Int) (E : Int → Int → Int → Int) (nr : Int) : Nat → Int → WT → MT → MT
  | 0, _, _, K => K
  | n + 1, p, W, _ => pKp Z w h E nr n (p + 1) (wFin (plX Z w h (E p) 5000 0 0 (pX0 Z (pSc p nr W))).1) (plX Z w h (E p) 5000 0 0 (pX0 Z (pSc p nr W))).2.1
theorem pKp_K {Z : Nat → Int} {w h nr p : Int} {E : Int → Int → Int → Int} {n : Nat} {W : WT} {K K2 : MT} (hn : 0 < n) : pKp Z w h E nr n p W K = pKp Z w h E nr n p W K2 := by
  obtain ⟨m, rfl⟩ : ∃ m, n = m + 1 := ⟨n - 1, by omega⟩
  rfl
def kOf (f : Nat → Int) : MT := fun r i => f (4 * i + (r - 36))
theorem mrk_of {f : Nat → Int} : mrk (kOf f) f := fun i _ => ⟨rfl, rfl, rfl, rfl⟩
def kOr (f0 f1 f2 f3 : Nat → Int) : MT := fun r i => if r = 36 then f0 i else if r = 37 then f1 i else if r = 38 then f2 i else f3 i
theorem mrl_of {f0 f1 f2 f3 : Nat → Int} : mrl (kOr f0 f1 f2 f3) f0 f1 f2 f3 := fun i _ => ⟨rfl, rfl, rfl, rfl⟩
