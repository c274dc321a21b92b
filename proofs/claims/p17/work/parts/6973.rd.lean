/-! reading as numbers alone: bytes, bits, numbers -/
/-- a tape: its bytes, how many -/
abbrev TN : Type := (Nat → Int) × Int
/-- where the reader stands, the byte at hand, how many bits of it are left -/
abbrev RDT : Type := Int × Int × Int
/-- the tape A lies so in this row -/
def tpl (A : TN) (z : Int) (f : Nat → Int) : Prop := z = A.2 ∧ ∀ i : Nat, (i : Int) < A.2 → f i % 256 = A.1 i
def rdB (A : TN) (a : Int) : Option Int := if a < A.2 then some (A.1 a.toNat) else none
def rdTwo (A : TN) (a : Int) : Option Int := (rdB A a).bind fun h => (rdB A (a + 1)).bind fun l => some (256 * h + l)
def rdMs (A : TN) : Nat → Int → Option (Int × Int)
  | 0, _ => none
  | m + 1, a => (rdB A a).bind fun v => if v = 255 then rdMs A m (a + 1) else some (v, a + 1)
def rdMk (A : TN) (a : Int) : Option (Int × Int) := (rdB A a).bind fun v => if v = 255 then rdMs A 40000 (a + 1) else none
def rdOpen (A : TN) (d : RDT) : Option RDT := if d.1 < A.2 then (if A.1 d.1.toNat = 255 then (if d.1 + 1 < A.2 then (if A.1 (d.1 + 1).toNat < 128 then some (d.1 + 1, A.1 d.1.toNat, if d.2.1 = 255 then 7 else 8) else none) else none) else some (d.1 + 1, A.1 d.1.toNat, if d.2.1 = 255 then 7 else 8)) else none
def rdRdy (A : TN) (d : RDT) : Option RDT := if d.2.2 = 0 then rdOpen A d else some d
def rdBit (A : TN) (d : RDT) : Option (Int × RDT) := (rdRdy A d).bind fun e => some (e.2.1 / 2 ^ (e.2.2 - 1).toNat % 2, e.1, e.2.1, e.2.2 - 1)
def rdBs (A : TN) : Nat → Int → RDT → Option (Int × RDT)
  | 0, v, d => some (v, d)
  | n + 1, v, d => (rdBit A d).bind fun q => rdBs A n (2 * v + q.1) q.2
/-- zeros up to a one: how many -/
def rdZ (A : TN) (zm : Int) : Nat → Int → RDT → Option (Int × RDT)
  | 0, _, _ => none
  | m + 1, z, d => (rdBit A d).bind fun q => if q.1 = 0 then (if zm ≤ z then none else rdZ A zm m (z + 1) q.2) else some (z, q.2)
def rdNum (A : TN) (k zm wb : Int) (d : RDT) : Option (Int × RDT) := (rdZ A zm 70 0 d).bind fun q => if q.1 < zm then (rdBs A k.toNat 0 q.2).bind fun r => some (q.1 * 2 ^ k.toNat + r.1, r.2) else (rdBs A wb.toNat 0 q.2).bind fun r => some (1 + r.1, r.2)
theorem bd_n {α β : Type} {f : α → Option β} : (none : Option α).bind f = none := rfl
theorem bd_s {α β : Type} {f : α → Option β} {a : α} : (some a).bind f = f a := rfl
theorem so3 {a b c x y z : Int} (h1 : a = x) (h2 : b = y) (h3 : c = z) : (some (a, b, c) : Option RDT) = some (x, y, z) := by rw [h1, h2, h3]
theorem rdB_s {A : TN} {a v z : Int} {f : Nat → Int} (h : tpl A z f) (h0 : 0 ≤ a ∧ a < z) (hv : v = mi_and (f a.toNat) 255) : rdB A a = some v := by
  have e := h.1
  unfold rdB
  rw [if_pos (by omega), hv, mi_and255, h.2 _ (by omega)]
theorem rdB_n {A : TN} {a z : Int} {f : Nat → Int} (h : tpl A z f) (h0 : z ≤ a) : rdB A a = none := by
  have e := h.1
  unfold rdB
  rw [if_neg (by omega)]
theorem tp_at {A : TN} {a v z : Int} {f : Nat → Int} (h : tpl A z f) (h0 : 0 ≤ a ∧ a < z) (hv : v = mi_and (f a.toNat) 255) : A.1 a.toNat = v := by
  have e := h.1
  rw [hv, mi_and255, h.2 _ (by omega)]
theorem rdBit_l {A : TN} {a b l : Int} (h : l ≠ 0) : rdBit A (a, b, l) = some (b / 2 ^ (l - 1).toNat % 2, a, b, l - 1) := by
  have e : rdRdy A (a, b, l) = some (a, b, l) := if_neg h
  unfold rdBit
  rw [e, bd_s]
theorem rdBit_o {A : TN} {a b a2 b2 l2 : Int} (h : rdOpen A (a, b, 0) = some (a2, b2, l2)) : rdBit A (a, b, 0) = some (b2 / 2 ^ (l2 - 1).toNat % 2, a2, b2, l2 - 1) := by
  have e : rdRdy A (a, b, 0) = rdOpen A (a, b, 0) := if_pos rfl
  unfold rdBit
  rw [e, h, bd_s]
theorem rdBit_n {A : TN} {a b : Int} (h : rdOpen A (a, b, 0) = none) : rdBit A (a, b, 0) = none := by
  have e : rdRdy A (a, b, 0) = rdOpen A (a, b, 0) := if_pos rfl
  unfold rdBit
  rw [e, h, bd_n]
theorem rdBs_s {A : TN} {n : Nat} {v b : Int} {d e : RDT} {R : Option (Int × RDT)} (h : rdBs A (n + 1) v d = R) (hb : rdBit A d = some (b, e)) : rdBs A n (2 * v + b) e = R := by
  rw [rdBs, hb, bd_s] at h
  exact h
theorem rdBs_n {A : TN} {n : Nat} {v : Int} {d : RDT} {R : Option (Int × RDT)} (h : rdBs A (n + 1) v d = R) (hb : rdBit A d = none) : R = none := by
  rw [rdBs, hb, bd_n] at h
  exact h.symm
