/-! packing as numbers alone: the writer -/
def nb (v : Int) : Int := mi_nb (mi_i2b v)
abbrev WT : Type := (Nat → Int) × Int × Int × Int
def wAdd (W : WT) (v : Int) : WT := (ua W.1 W.2.1.toNat (nb v), W.2.1 + 1, W.2.2)
def wBit (W : WT) (b : Int) : WT := if W.2.2.2 = 1 then (ua W.1 W.2.1.toNat (nb (2 * W.2.2.1 + b)), W.2.1 + 1, 0, if 2 * W.2.2.1 + b = 255 then 7 else 8) else (W.1, W.2.1, 2 * W.2.2.1 + b, W.2.2.2 - 1)
def wBits : Nat → Int → WT → WT
  | 0, _, W => W
  | n + 1, v, W => wBits n v (wBit W (v / 2 ^ n % 2))
def wNum (W : WT) (m k z q : Int) : WT := if m / 2 ^ k.toNat < z then wBits k.toNat m (wBit (wBits (m / 2 ^ k.toNat).toNat 0 W) 1) else wBits q.toNat (m - 1) (wBit (wBits z.toNat 0 W) 1)
def wFin (W : WT) : WT := if W.2.2.2 < 8 then (ua W.1 W.2.1.toNat (nb (W.2.2.1 * 2 ^ W.2.2.2.toNat)), W.2.1 + 1, 0, 8) else (W.1, W.2.1, 0, 8)
/-- the writer W stands so in the fields z, h, r and in the row f -/
def wrl (W : WT) (z h r : Int) (f : Nat → Int) : Prop := W.2.1 = z ∧ W.2.2.1 = h ∧ W.2.2.2 = r ∧ ∀ i : Nat, (i : Int) < z → f i = W.1 i
theorem wrl_add {W : WT} {z h r v : Int} {f g : Nat → Int} (hw : wrl W z h r f) (hz : 0 ≤ z) (hg : ∀ i : Nat, (i : Int) < z → g i = f i) : wrl (wAdd W v) (z + 1) h r (ua g z.toNat (nb v)) := by
  obtain ⟨e1, e2, e3, e4⟩ := hw
  unfold wAdd
  refine ⟨by show W.2.1 + 1 = z + 1; rw [e1], e2, e3, fun i hi => ?_⟩
  show ua g z.toNat (nb v) i = ua W.1 W.2.1.toNat (nb v) i
  rw [e1]
  by_cases h1 : i = z.toNat
  · rw [h1, ua_eq, ua_eq]
  · rw [ua_ne h1, ua_ne h1, hg i (by omega), e4 i (by omega)]
theorem wrl_b1 {W : WT} {z h r b : Int} {f : Nat → Int} (hw : wrl W z h r f) (hr : r ≠ 1) : wrl (wBit W b) z (2 * h + b) (r - 1) f := by
  obtain ⟨e1, e2, e3, e4⟩ := hw
  unfold wBit
  rw [if_neg (by rw [e3]; exact hr)]
  exact ⟨e1, by show 2 * W.2.2.1 + b = _; rw [e2], by show W.2.2.2 - 1 = _; rw [e3], e4⟩
theorem wrl_b2 {W : WT} {z h r b : Int} {f g : Nat → Int} (hw : wrl W z h r f) (hz : 0 ≤ z) (hr : r = 1) (hg : ∀ i : Nat, (i : Int) < z → g i = f i) : wrl (wBit W b) (z + 1) 0 (if 2 * h + b = 255 then 7 else 8) (ua g z.toNat (nb (2 * h + b))) := by
  obtain ⟨e1, e2, e3, e4⟩ := hw
  unfold wBit
  rw [if_pos (by rw [e3]; exact hr)]
  refine ⟨by show W.2.1 + 1 = z + 1; rw [e1], rfl, by show (if 2 * W.2.2.1 + b = 255 then (7 : Int) else 8) = _; rw [e2], fun i hi => ?_⟩
  show ua g z.toNat _ i = ua W.1 W.2.1.toNat (nb (2 * W.2.2.1 + b)) i
  rw [e1, e2]
  by_cases h1 : i = z.toNat
  · rw [h1, ua_eq, ua_eq]
  · rw [ua_ne h1, ua_ne h1, hg i (by omega), e4 i (by omega)]
/-- bits k, k - 1 .. 0 of v are still to be written, and then the writer is R -/
def wLp (k v : Int) (R : WT) (z h r : Int) (f : Nat → Int) : Prop := ∃ W, wrl W z h r f ∧ wBits (k + 1).toNat v W = R
theorem wLp_0 {v z h r n : Int} {f : Nat → Int} {W : WT} (hw : wrl W z h r f) : wLp (n - 1) v (wBits n.toNat v W) z h r f := ⟨W, hw, by rw [Int.sub_add_cancel]⟩
theorem wLp_e {k v z h r : Int} {f : Nat → Int} {R : WT} (hw : wLp k v R z h r f) (hk : k < 0) : wrl R z h r f := by
  obtain ⟨W, h1, h2⟩ := hw
  rw [show (k + 1).toNat = 0 by omega] at h2
  rw [← h2]
  exact h1
theorem wLp_1 {k v z h r b : Int} {f : Nat → Int} {R : WT} (hw : wLp k v R z h r f) (hk : 0 ≤ k) (hb : b = v / 2 ^ k.toNat % 2) (hr : r ≠ 1) : wLp (k - 1) v R z (2 * h + b) (r - 1) f := by
  obtain ⟨W, h1, h2⟩ := hw
  rw [show (k + 1).toNat = k.toNat + 1 by omega, wBits, ← hb] at h2
  exact ⟨_, wrl_b1 h1 hr, by rw [show (k - 1 + 1).toNat = k.toNat by omega]; exact h2⟩
theorem wLp_2 {k v z h r b : Int} {f g : Nat → Int} {R : WT} (hw : wLp k v R z h r f) (hk : 0 ≤ k) (hb : b = v / 2 ^ k.toNat % 2) (hz : 0 ≤ z) (hr : r = 1) (hg : ∀ i : Nat, (i : Int) < z → g i = f i) : wLp (k - 1) v R (z + 1) 0 (if 2 * h + b = 255 then 7 else 8) (ua g z.toNat (nb (2 * h + b))) := by
  obtain ⟨W, h1, h2⟩ := hw
  rw [show (k + 1).toNat = k.toNat + 1 by omega, wBits, ← hb] at h2
  exact ⟨_, wrl_b2 h1 hz hr hg, by rw [show (k - 1 + 1).toNat = k.toNat by omega]; exact h2⟩
theorem bt_sh {v k : Int} (hv : -2147483648 ≤ v ∧ v ≤ 2147483647) (hk : 0 ≤ k) (h : k ≤ 31 ∨ v = 0) : mi_and (mi_shr v k) 1 = v / 2 ^ k.toNat % 2 := by
  rw [mi_and1]
  rcases h with h | h
  · rw [mi_shr_div hv hk h]
  · subst h
    rw [mi_shr0, Int.zero_ediv]
/-- only the low bits of what is written count -/
theorem wBits_md {v u : Int} : ∀ (n : Nat) (W : WT), (∀ j : Nat, j < n → v / 2 ^ j % 2 = u / 2 ^ j % 2) → wBits n v W = wBits n u W
  | 0, _, _ => rfl
  | n + 1, W, h => by
    rw [wBits, wBits, h n (Nat.lt_succ_self _)]
    exact wBits_md n _ (fun j hj => h j (Nat.lt_succ_of_lt hj))
theorem bt_md {v : Int} {n j : Nat} (hj : j < n) : v % 2 ^ n / 2 ^ j % 2 = v / 2 ^ j % 2 := by
  have e : (2 : Int) ^ n = 2 ^ j * (2 * 2 ^ (n - j - 1)) := by
    rw [← Int.mul_assoc, ← Int.pow_succ, ← Int.pow_add]
    congr 1
    omega
  have hp : (0 : Int) < 2 ^ j := Int.pow_pos (by decide)
  have h1 : v % 2 ^ n = v - 2 ^ j * ((2 * 2 ^ (n - j - 1)) * (v / 2 ^ n)) := by
    have h2 := Int.emod_def v (2 ^ n)
    rw [h2]
    congr 1
    rw [← Int.mul_assoc, ← e]
  rw [h1, Int.sub_mul_ediv_left _ _ (by omega), Int.mul_assoc, Int.sub_emod, Int.mul_emod_right, Int.sub_zero, Int.emod_emod_of_dvd _ (Int.dvd_refl 2)]
theorem wBits_am {m : Int} {k : Nat} {W : WT} (hk : k ≤ 30) : wBits k (mi_and m (2 ^ k - 1)) W = wBits k m W := by
  apply wBits_md
  intro j hj
  rw [mi_and_mk m k hk]
  exact bt_md hj
