/-! a row's sections as numbers alone -/
def oel {α β : Type} (o : Option α) (x : β) (f : α → β) : β := match o with
  | none => x
  | some a => f a
theorem oel_n {α β : Type} {x : β} {f : α → β} : oel none x f = x := rfl
theorem oel_s {α β : Type} {x : β} {f : α → β} {a : α} : oel (some a) x f = f a := rfl
noncomputable def cif {α : Type} (P : Prop) (a b : α) : α := @ite α P (Classical.propDecidable P) a b
theorem cif_pos {α : Type} {P : Prop} {a b : α} (h : P) : cif P a b = a := if_pos h
theorem cif_neg {α : Type} {P : Prop} {a b : α} (h : ¬ P) : cif P a b = b := if_neg h
def gB (A : TN) (a : Int) : Int := A.1 a.toNat
def gT (A : TN) (a : Int) : Int := 256 * gB A a + gB A (a + 1)
section GB
variable {A : TN} {a v : Int}
theorem rdB_g (h : rdB A a = some v) : a < A.2 ∧ gB A a = v := by
  by_cases h1 : a < A.2
  · unfold rdB at h
    rw [if_pos h1] at h
    injection h with h
    exact ⟨h1, h⟩
  · unfold rdB at h
    rw [if_neg h1] at h
    cases h
theorem rdB_gn (h : rdB A a = none) : A.2 ≤ a := by
  by_cases h1 : a < A.2
  · unfold rdB at h
    rw [if_pos h1] at h
    cases h
  · omega
theorem rdB_gx (h : rdB A a ≠ some v) : A.2 ≤ a ∨ gB A a ≠ v := by
  by_cases h1 : a < A.2
  · refine Or.inr (fun e => h ?_)
    unfold rdB
    rw [if_pos h1, ← e]
    rfl
  · exact Or.inl (by omega)
theorem rdTwo_g (h : rdTwo A a = some v) : a + 1 < A.2 ∧ gT A a = v := by
  obtain ⟨x, hx, h2⟩ := bd_so h
  obtain ⟨y, hy, h3⟩ := bd_so h2
  injection h3 with h3
  have h4 := rdB_g hx
  have h5 := rdB_g hy
  refine ⟨h5.1, ?_⟩
  unfold gT
  rw [h4.2, h5.2]
  exact h3
theorem rdTwo_gn (h : rdTwo A a = none) : A.2 ≤ a + 1 := by
  by_cases h1 : a + 1 < A.2
  · exfalso
    unfold rdTwo rdB at h
    rw [if_pos (by omega), bd_s, if_pos h1, bd_s] at h
    cases h
  · omega
end GB
/-- a FRAME behind its mark: width, height, planes, depth, names -/
def qW (A : TN) (a : Int) : Int := gT A (a + 5)
def qH (A : TN) (a : Int) : Int := gT A (a + 3)
def qP (A : TN) (a : Int) : Int := gB A (a + 7)
def qD (A : TN) (a : Int) : Int := gB A (a + 2)
def qN (A : TN) (a k : Int) : Int := gB A (a + 8 + 3 * k)
/-- a name that stood there before -/
def dupV (f : Nat → Int) (n v : Int) : Prop := ∃ j : Int, (0 ≤ j ∧ j < n) ∧ f j.toNat = v
def nmO (A : TN) (a n : Int) : Prop := (∀ k : Int, 0 ≤ k → k < n → gB A (a + 9 + 3 * k) = 17 ∧ gB A (a + 10 + 3 * k) = 0) ∧ ∀ i k : Int, 0 ≤ i → i < k → k < n → qN A a i ≠ qN A a k
def okF (A : TN) (a : Int) : Prop := a + 8 + 3 * qP A a ≤ A.2 ∧ gT A a = 8 + 3 * qP A a ∧ (2 ≤ qD A a ∧ qD A a ≤ 16) ∧ (1 ≤ qH A a ∧ qH A a ≤ 64) ∧ (1 ≤ qW A a ∧ qW A a ≤ 64) ∧ (qP A a = 1 ∨ qP A a = 3) ∧ nmO A a (qP A a)
def okM (A : TN) (a : Int) : Prop := a + 13 ≤ A.2 ∧ gT A a = 13 ∧ gB A (a + 2) = 1
def qM (A : TN) (a : Int) : Nat → Int := fun i => gT A (a + 3 + 2 * (i : Int))
def okS (A : TN) (a nm : Int) : Prop := a + 8 ≤ A.2 ∧ gT A a = 8 ∧ gB A (a + 2) = 1 ∧ gB A (a + 3) = nm ∧ gB A (a + 4) = 0 ∧ gB A (a + 6) = 0 ∧ gB A (a + 7) = 0
def okE (A : TN) (a : Int) : Prop := a + 2 ≤ A.2 ∧ 2 ≤ gT A a
def ZS (t : Nat → Int) (d n : Int) : Nat → Int := ZM (t 0) (t 1) (t 2) (t 3) (t 4) d n
def VS (t : Nat → Int) (d n : Int) : Prop := VM (t 0) (t 1) (t 2) (t 3) (t 4) d n
/-- where the reader stands; width, height, planes (0: no FRAME yet), depth; scans read; where the FRAME stands; what MEASURES told; what is kept; the samples of the planes -/
abbrev SR : Type := Int × (Int × Int × Int × Int) × Int × Int × (Nat → Int) × MT × (Int → Nat → Int)
def plS (A : TN) (t : Nat → Int) (w h d a : Int) : Option XR := plQ A (ZS t d (gB A (a + 5))) w h 5000 0 0 ((a + 8, 0, 0), mB (ZS t d (gB A (a + 5)) 3024), 0, fun _ => 0)
/-- a scan was read -/
def scN (S : SR) (X : XR) : SR := ((if X.1.2.1 = 255 then X.1.1 + 1 else X.1.1), S.2.1, S.2.2.1 + 1, S.2.2.2.1, S.2.2.2.2.1, X.2.1, fun q => if q = S.2.2.1 then X.2.2.2 else S.2.2.2.2.2.2 q)
/-- a section behind its mark -/
noncomputable def sec (A : TN) (m a : Int) (S : SR) : Option SR :=
  if m = 247 then cif (S.2.1.2.2.1 = 0 ∧ okF A a) (some (a + 8 + 3 * qP A a, (qW A a, qH A a, qP A a, qD A a), S.2.2.1, a, S.2.2.2.2)) none
  else if m = 248 then cif (okM A a) (some (a + 13, S.2.1, S.2.2.1, S.2.2.2.1, qM A a, S.2.2.2.2.2)) none
  else if m = 218 then cif (S.2.2.1 < S.2.1.2.2.1 ∧ okS A a (qN A S.2.2.2.1 S.2.2.1) ∧ VS S.2.2.2.2.1 S.2.1.2.2.2 (gB A (a + 5))) ((plS A S.2.2.2.2.1 S.2.1.1 S.2.1.2.1 S.2.1.2.2.2 a).bind (fun X => some (scN S X))) none
  else cif (((224 ≤ m ∧ m ≤ 239) ∨ m = 254) ∧ okE A a) (some (a + gT A a, S.2)) none
section SEC
variable {A : TN} {m a : Int} {S : SR} {X : XR}
theorem sec_f (h : S.2.1.2.2.1 = 0) (hf : okF A a) : sec A 247 a S = some (a + 8 + 3 * qP A a, (qW A a, qH A a, qP A a, qD A a), S.2.2.1, a, S.2.2.2.2) := by
  unfold sec
  rw [if_pos rfl, cif_pos ⟨h, hf⟩]
theorem sec_fn (h : ¬ (S.2.1.2.2.1 = 0 ∧ okF A a)) : sec A 247 a S = none := by
  unfold sec
  rw [if_pos rfl, cif_neg h]
theorem sec_m (h : okM A a) : sec A 248 a S = some (a + 13, S.2.1, S.2.2.1, S.2.2.2.1, qM A a, S.2.2.2.2.2) := by
  unfold sec
  rw [if_neg (by decide), if_pos rfl, cif_pos h]
theorem sec_mn (h : ¬ okM A a) : sec A 248 a S = none := by
  unfold sec
  rw [if_neg (by decide), if_pos rfl, cif_neg h]
theorem sec_s (h : S.2.2.1 < S.2.1.2.2.1 ∧ okS A a (qN A S.2.2.2.1 S.2.2.1) ∧ VS S.2.2.2.2.1 S.2.1.2.2.2 (gB A (a + 5))) (hX : plS A S.2.2.2.2.1 S.2.1.1 S.2.1.2.1 S.2.1.2.2.2 a = some X) : sec A 218 a S = some (scN S X) := by
  unfold sec
  rw [if_neg (by decide), if_neg (by decide), if_pos rfl, cif_pos h, hX, bd_s]
theorem sec_sn (h : ¬ (S.2.2.1 < S.2.1.2.2.1 ∧ okS A a (qN A S.2.2.2.1 S.2.2.1) ∧ VS S.2.2.2.2.1 S.2.1.2.2.2 (gB A (a + 5)))) : sec A 218 a S = none := by
  unfold sec
  rw [if_neg (by decide), if_neg (by decide), if_pos rfl, cif_neg h]
theorem sec_sx (hX : plS A S.2.2.2.2.1 S.2.1.1 S.2.1.2.1 S.2.1.2.2.2 a = none) : sec A 218 a S = none := by
  unfold sec
  rw [if_neg (by decide), if_neg (by decide), if_pos rfl]
  by_cases h : S.2.2.1 < S.2.1.2.2.1 ∧ okS A a (qN A S.2.2.2.1 S.2.2.1) ∧ VS S.2.2.2.2.1 S.2.1.2.2.2 (gB A (a + 5))
  · rw [cif_pos h, hX, bd_n]
  · rw [cif_neg h]
theorem sec_e (h : (224 ≤ m ∧ m ≤ 239) ∨ m = 254) (h2 : okE A a) : sec A m a S = some (a + gT A a, S.2) := by
  unfold sec
  rw [if_neg (by omega), if_neg (by omega), if_neg (by omega), cif_pos ⟨h, h2⟩]
theorem sec_en (h : (224 ≤ m ∧ m ≤ 239) ∨ m = 254) (h2 : ¬ okE A a) : sec A m a S = none := by
  unfold sec
  rw [if_neg (by omega), if_neg (by omega), if_neg (by omega), cif_neg (fun q => h2 q.2)]
theorem sec_x (h1 : m ≠ 247 ∧ m ≠ 248 ∧ m ≠ 218) (h : ¬ ((224 ≤ m ∧ m ≤ 239) ∨ m = 254)) : sec A m a S = none := by
  unfold sec
  rw [if_neg h1.1, if_neg h1.2.1, if_neg h1.2.2, cif_neg (fun q => h q.1)]
end SEC
/-- behind a mark: what will be, and what is kept then -/
noncomputable def secK (A : TN) (N : SR → Option SR × MT) (m a : Int) (S : SR) : Option SR × MT :=
  if m = 217 then (if S.2.1.2.2.1 ≠ 0 ∧ S.2.2.1 = S.2.1.2.2.1 ∧ A.2 ≤ a then (some S, S.2.2.2.2.2.1) else (none, S.2.2.2.2.2.1)) else oel (sec A m a S) (none, S.2.2.2.2.2.1) N
noncomputable def secs (A : TN) : Nat → SR → Option SR × MT
  | 0, S => (none, S.2.2.2.2.2.1)
  | n + 1, S => oel (rdMk A S.1) (none, S.2.2.2.2.2.1) fun q => secK A (secs A n) q.1 q.2 S
/-- a row: its picture, or none; what is kept then -/
noncomputable def rowR (A : TN) (K : MT) : Option SR × MT := oel (rdMk A 0) (none, K) fun q => if q.1 = 216 then secs A 40000 (q.2, (0, 0, 0, 0), 0, 0, (fun _ => 0), K, fun _ _ => 0) else (none, K)
section SECS
variable {A : TN} {n : Nat} {m a : Int} {S S2 : SR} {N : SR → Option SR × MT} {K : MT}
theorem secs_m (h : rdMk A S.1 = some (m, a)) : secs A (n + 1) S = secK A (secs A n) m a S := by
  rw [secs, h, oel_s]
theorem secs_n (h : rdMk A S.1 = none) : secs A n S = (none, S.2.2.2.2.2.1) := by
  cases n with
  | zero => rfl
  | succ k => rw [secs, h, oel_n]
theorem secK_y (h : S.2.1.2.2.1 ≠ 0 ∧ S.2.2.1 = S.2.1.2.2.1 ∧ A.2 ≤ a) : secK A N 217 a S = (some S, S.2.2.2.2.2.1) := by
  unfold secK
  rw [if_pos rfl, if_pos h]
theorem secK_x (h : ¬ (S.2.1.2.2.1 ≠ 0 ∧ S.2.2.1 = S.2.1.2.2.1 ∧ A.2 ≤ a)) : secK A N 217 a S = (none, S.2.2.2.2.2.1) := by
  unfold secK
  rw [if_pos rfl, if_neg h]
theorem secK_s (hm : m ≠ 217) (h : sec A m a S = some S2) : secK A N m a S = N S2 := by
  unfold secK
  rw [if_neg hm, h, oel_s]
theorem secK_n (hm : m ≠ 217) (h : sec A m a S = none) : secK A N m a S = (none, S.2.2.2.2.2.1) := by
  unfold secK
  rw [if_neg hm, h, oel_n]
theorem rowR_n (h : rdMk A 0 = none) : rowR A K = (none, K) := by
  unfold rowR
  rw [h, oel_n]
theorem rowR_x (h : rdMk A 0 = some (m, a)) (hm : m ≠ 216) : rowR A K = (none, K) := by
  unfold rowR
  rw [h, oel_s]
  exact if_neg hm
theorem rowR_s (h : rdMk A 0 = some (216, a)) : rowR A K = secs A 40000 (a, (0, 0, 0, 0), 0, 0, (fun _ => 0), K, fun _ _ => 0) := by
  unfold rowR
  rw [h, oel_s]
  exact if_pos rfl
/-- no byte is left where a mark must be -/
theorem rdMk_e (h : A.2 ≤ a) : rdMk A a = none := by
  unfold rdMk rdB
  rw [if_neg (by omega), bd_n]
theorem nmO_s {n : Int} (h : nmO A a n) (h1 : gB A (a + 9 + 3 * n) = 17 ∧ gB A (a + 10 + 3 * n) = 0) (h2 : ∀ i : Int, 0 ≤ i → i < n → qN A a i ≠ qN A a n) : nmO A a (n + 1) := by
  refine ⟨fun k k0 k1 => ?_, fun i k i0 ik k1 => ?_⟩
  · by_cases e : k = n
    · rw [e]
      exact h1
    · exact h.1 k k0 (by omega)
  · by_cases e : k = n
    · rw [e]
      exact h2 i i0 (by omega)
    · exact h.2 i k i0 ik (by omega)
theorem nmO_0 : nmO A a 0 := ⟨fun k k0 k1 => absurd k1 (by omega), fun i k i0 ik k1 => absurd k1 (by omega)⟩
end SECS
