/-! steps on a world of which only some cells are known -/
section MSG
variable {Z : Nat → Option (Nat × (Nat → Int32))} {d M pc : Nat} {ls : List (Option Value)} {st : List Value} {w : mm_W} {r : mm_Rs × mm_W}
theorem mm_obj_at {a c : Nat} {fs : List Value} (h : mm_obj w a = some (c, fs)) : a < 1000000 ∧ w[a]? = some (.inr (c, fs)) := by
  unfold mm_obj at h
  split at h
  · rename_i hl
    refine ⟨hl, ?_⟩
    split at h
    · rename_i q hq; cases h; exact hq
    · cases h
  · cases h
theorem mm_ar_at {a : Nat} {q : FieldType × vp_A} (h : mm_ar w a = some q) : a < 1000000 ∧ w[a]? = some (.inl q) := by
  unfold mm_ar at h
  split at h
  · rename_i hl
    refine ⟨hl, ?_⟩
    split at h
    · rename_i q hq; cases h; exact hq
    · cases h
  · cases h
theorem mm_obj_of {a c : Nat} {fs : List Value} (h : a < 1000000) (hw : w[a]? = some (.inr (c, fs))) : mm_obj w a = some (c, fs) := by
  unfold mm_obj; rw [if_pos h, hw]
theorem mm_ar_of {a : Nat} {q : FieldType × vp_A} (h : a < 1000000) (hw : w[a]? = some (.inl q)) : mm_ar w a = some q := by
  unfold mm_ar; rw [if_pos h, hw]
theorem mm_obj_ne {a b c : Nat} {E : mm_E} {fs : List Value} (h : mm_obj w a = some (c, fs)) (hn : b ≠ a) : mm_obj (w.set b E) a = some (c, fs) := by
  obtain ⟨h1, h2⟩ := mm_obj_at h
  exact mm_obj_of h1 (by rw [List.getElem?_set_ne hn]; exact h2)
theorem mm_ar_ne {a b : Nat} {E : mm_E} {q : FieldType × vp_A} (h : mm_ar w a = some q) (hn : b ≠ a) : mm_ar (w.set b E) a = some q := by
  obtain ⟨h1, h2⟩ := mm_ar_at h
  exact mm_ar_of h1 (by rw [List.getElem?_set_ne hn]; exact h2)
theorem mm_ar_eq {a : Nat} {q q' : FieldType × vp_A} (h : mm_ar w a = some q) : mm_ar (w.set a (.inl q')) a = some q' := by
  obtain ⟨h1, h2⟩ := mm_ar_at h
  exact mm_ar_of h1 (by rw [List.getElem?_set_self (List.getElem?_eq_some_iff.mp h2).1])
theorem mm_ar_self {a : Nat} {q : FieldType × vp_A} (h : mm_ar w a = some q) : w.set a (.inl q) = w := by
  obtain ⟨h1, h2⟩ := mm_ar_at h
  obtain ⟨h3, h4⟩ := List.getElem?_eq_some_iff.mp h2
  rw [← h4]; exact List.set_getElem_self h3
theorem mm_xget {ix len a cj k : Nat} {fs : List Value} {v : Value} (hc : (mm_code M)[pc]? = some (some (.getfield ix, len))) (ho : mm_obj w a = some (cj, fs)) (hf : mm_fld (mm_cn M) ix cj = some k) (hv : fs[k]? = some v) (g : mm_X Z d M (pc + 3, ls, v :: st, w) r) : mm_X Z d M (pc, ls, .ref a :: st, w) r := by
  refine mm_xstep (S' := (pc + 3, ls, v :: st, w)) ?_ g
  unfold mm_act
  dsimp only
  rw [hc]
  simp only [mm_aGet, ho, hf, hv]
theorem mm_xlen {len a n : Nat} {x : _} (hc : (mm_code M)[pc]? = some (some (.arraylength, len))) (ha : mm_ar w a = some (.int, n, x)) (g : mm_X Z d M (pc + 1, ls, .int (Int32.ofNat n) :: st, w) r) : mm_X Z d M (pc, ls, .ref a :: st, w) r := by
  refine mm_xstep (S' := (pc + 1, ls, .int (Int32.ofNat n) :: st, w)) ?_ g
  unfold mm_act
  dsimp only
  rw [hc]
  simp only [mm_aLen, ha]
  rfl
theorem mm_xist {len a n : Nat} {i x : Int32} {f : Nat → Int32} (hc : (mm_code M)[pc]? = some (some (.iastore, len))) (ha : mm_ar w a = some (.int, n, .inl f)) (hi : mm_bd i n) (g : mm_X Z d M (pc + 1, ls, st, w.set a (.inl (.int, n, .inl (upd f i.toNatClampNeg x)))) r) : mm_X Z d M (pc, ls, .int x :: .int i :: .ref a :: st, w) r := by
  refine mm_xstep (S' := (pc + 1, ls, st, w.set a (.inl (.int, n, .inl (upd f i.toNatClampNeg x))))) ?_ g
  unfold mm_act
  dsimp only
  rw [hc]
  simp only [mm_aIst, ha, if_neg (mm_bd_ok hi)]
theorem mm_xdiv {len : Nat} {x y : Int32} (hc : (mm_code M)[pc]? = some (some (.idiv, len))) (hy : y ≠ 0) (g : mm_X Z d M (pc + 1, ls, .int (x / y) :: st, w) r) : mm_X Z d M (pc, ls, .int y :: .int x :: st, w) r := by
  refine mm_xstep (S' := (pc + 1, ls, .int (x / y) :: st, w)) ?_ g
  unfold mm_act
  dsimp only
  rw [hc]
  simp only [mm_pure, mm_div, if_neg hy]
theorem mm_xnwa {len : Nat} {n : Int32} {N : Nat} (hc : (mm_code M)[pc]? = some (some (.newarray .int, len))) (h0 : 0 ≤ n.toInt) (hN : n.toInt ≤ 60000000) (hl : w.length = N) (hl2 : Nat.blt N 1000000 = true) (g : mm_X Z d M (pc + 2, ls, .ref N :: st, w ++ [.inl (.int, n.toNatClampNeg, .inl (fun _ => 0))]) r) : mm_X Z d M (pc, ls, .int n :: st, w) r := by
  subst hl
  refine mm_xstep (S' := (pc + 2, ls, .ref w.length :: st, w ++ [.inl (.int, n.toNatClampNeg, .inl (fun _ => 0))])) ?_ g
  have e : n.toNatClampNeg = n.toInt.toNat := rfl
  have hl3 : w.length < 1000000 := by simpa [Nat.blt_eq] using hl2
  have hq : ¬ (n < 0 ∨ 60000000 < n.toNatClampNeg ∨ 1000000 ≤ w.length) := by
    rintro (h | h | h)
    · rw [Int32.lt_iff_toInt_lt] at h
      have : (0 : Int32).toInt = 0 := rfl
      omega
    · rw [e] at h; omega
    · omega
  unfold mm_act
  dsimp only
  rw [hc]
  simp only [mm_aNwa, mm_zero, if_neg hq]
end MSG
theorem mm_nat {n : Nat} (h : n < 2147483648) : (Int32.ofNat n).toInt = n := Int32.toInt_ofNat_of_lt h
theorem mm_bdn {k n : Nat} (h : k < n) (hn : n < 2147483648) : mm_bd (Int32.ofNat k) n := by
  refine ⟨?_, ?_⟩ <;> rw [mm_nat (by omega)] <;> omega
theorem mm_suc (k : Nat) : Int32.ofNat k + Int32.ofInt 1 = Int32.ofNat (k + 1) := by rw [Int32.ofNat_add]; rfl
/-! the reference's canvas: its loop over all cells -/
theorem mm_lpC {Z : Nat → Option (Nat × (Nat → Int32))} {d : Nat} {l1 l2 l3 l4 : Option Value} {fs : List Value} : ∀ (m k : Nat) (f : Nat → Int32) (w : mm_W), k + m = 12288 → mm_obj w 30 = some (10, fs) → fs[5]? = some (.ref 31) → mm_ar w 31 = some (.int, 12288, .inl f) →
    ∃ f', ∀ r, mm_X Z d 135 (106, [some (.ref 30), l1, l2, l3, l4, some (.int 12288)], [], w.set 31 (.inl (.int, 12288, .inl f'))) r → mm_X Z d 135 (82, [some (.ref 30), l1, l2, l3, l4, some (.int (Int32.ofNat k))], [], w) r := by
  intro m
  induction m with
  | zero =>
    intro k f w hk ho hf ha
    refine ⟨f, fun r g => ?_⟩
    obtain rfl : k = 12288 := by omega
    rw [mm_ar_self ha] at g
    refine mm_xk (S' := (85, [some (.ref 30), l1, l2, l3, l4, some (.int 12288)], [.ref 30, .int 12288], w)) 2 10 rfl ?_
    refine mm_xget rfl ho rfl hf ?_
    refine mm_xlen rfl ha ?_
    exact mm_xif2 rfl true (mm_ge1 (a := 12288) (b := 12288) rfl rfl (by omega)) rfl g
  | succ m ih =>
    intro k f w hk ho hf ha
    obtain ⟨f', hg⟩ := ih (k + 1) (upd f (Int32.ofNat k).toNatClampNeg 0) (w.set 31 (.inl (.int, 12288, .inl (upd f (Int32.ofNat k).toNatClampNeg 0)))) (by omega) (mm_obj_ne ho (by decide)) hf (mm_ar_eq ha)
    refine ⟨f', fun r g => ?_⟩
    have g2 := hg r (by rw [List.set_set]; exact g)
    refine mm_xk (S' := (85, [some (.ref 30), l1, l2, l3, l4, some (.int (Int32.ofNat k))], [.ref 30, .int (Int32.ofNat k)], w)) 2 10 rfl ?_
    refine mm_xget rfl ho rfl hf ?_
    refine mm_xlen rfl ha ?_
    refine mm_xif2 rfl false (mm_ge0 (a := (k : Int)) (b := 12288) (mm_nat (by omega)) rfl (by omega)) rfl ?_
    refine mm_xk (S' := (93, [some (.ref 30), l1, l2, l3, l4, some (.int (Int32.ofNat k))], [.ref 30], w)) 1 10 rfl ?_
    refine mm_xget rfl ho rfl hf ?_
    refine mm_xk (S' := (99, [some (.ref 30), l1, l2, l3, l4, some (.int (Int32.ofNat k))], [.int 0, .int (Int32.ofNat k), .ref 31], w)) 2 10 rfl ?_
    refine mm_xist rfl ha (mm_bdn (by omega) (by decide)) ?_
    refine mm_xk (S' := (82, [some (.ref 30), l1, l2, l3, l4, some (.int (Int32.ofNat k + Int32.ofInt 1))], [], _)) 2 10 rfl ?_
    rw [mm_suc]
    exact g2
theorem mm_less {Z : Nat → Option (Nat × (Nat → Int32))} {d : Nat} {w : mm_W} (x y : Int32) : mm_X Z d 139 (0, [some (.int x), some (.int y)], [], w) (.inl (some (.int (if x < y then x else y))), w) := by
  by_cases h : x < y
  · rw [if_pos h]
    refine mm_xk (S' := (2, [some (.int x), some (.int y)], [.int y, .int x], w)) 2 10 rfl ?_
    refine mm_xif2 rfl false (decide_eq_false (Int32.not_le.mpr h)) rfl ?_
    exact mm_xk (S' := (10, [some (.int x), some (.int y)], [.int x], w)) 2 10 rfl (mm_xfin rfl)
  · rw [if_neg h]
    refine mm_xk (S' := (2, [some (.int x), some (.int y)], [.int y, .int x], w)) 2 10 rfl ?_
    refine mm_xif2 rfl true (decide_eq_true (Int32.not_lt.mp h)) rfl ?_
    exact mm_xk (S' := (10, [some (.int x), some (.int y)], [.int y], w)) 1 10 rfl (mm_xfin rfl)
theorem mm_more {Z : Nat → Option (Nat × (Nat → Int32))} {d : Nat} {w : mm_W} (x y : Int32) : mm_X Z d 140 (0, [some (.int x), some (.int y)], [], w) (.inl (some (.int (if y < x then x else y))), w) := by
  by_cases h : y < x
  · rw [if_pos h]
    refine mm_xk (S' := (2, [some (.int x), some (.int y)], [.int y, .int x], w)) 2 10 rfl ?_
    refine mm_xif2 rfl false (decide_eq_false (Int32.not_le.mpr h)) rfl ?_
    exact mm_xk (S' := (10, [some (.int x), some (.int y)], [.int x], w)) 2 10 rfl (mm_xfin rfl)
  · rw [if_neg h]
    refine mm_xk (S' := (2, [some (.int x), some (.int y)], [.int y, .int x], w)) 2 10 rfl ?_
    refine mm_xif2 rfl true (decide_eq_true (Int32.not_lt.mp h)) rfl ?_
    exact mm_xk (S' := (10, [some (.int x), some (.int y)], [.int y], w)) 1 10 rfl (mm_xfin rfl)
theorem mm_szQ {w : mm_W} {a b : Nat} {F : mm_E} (c : Nat) (h : mm_Sz w a b) (hF : mm_cs F ≤ c) : mm_Sz (w ++ [F]) (a + 1) (b + c) :=
  ⟨by rw [List.length_append]; have := h.1; simp; omega, by rw [mm_sl_push]; have := h.2; omega⟩
theorem mm_minmax (v : Int32) : 0 ≤ (if (if v < 128 then 128 else v) < 12288 then (if v < 128 then 128 else v) else 12288 : Int32).toInt ∧ (if (if v < 128 then 128 else v) < 12288 then (if v < 128 then 128 else v) else 12288 : Int32).toInt ≤ 12288 := by
  have e1 : (128 : Int32).toInt = 128 := rfl
  have e2 : (12288 : Int32).toInt = 12288 := rfl
  by_cases h : v < 128
  · simp only [if_pos h]
    rw [if_pos (by decide)]
    omega
  · simp only [if_neg h]
    have h1 := Int32.not_lt.mp h
    rw [Int32.le_iff_toInt_le] at h1
    by_cases h2 : v < 12288
    · rw [if_pos h2]
      rw [Int32.lt_iff_toInt_lt] at h2
      omega
    · rw [if_neg h2]
      omega
theorem mm_xlcmp {Z : Nat → Option (Nat × (Nat → Int32))} {d M pc len : Nat} {ls : List (Option Value)} {st : List Value} {w : mm_W} {r : mm_Rs × mm_W} {x y : Int64} {z : Int32} (hc : (mm_code M)[pc]? = some (some (.lcmp, len))) (hz : lg_cmp x y = z) (g : mm_X Z d M (pc + 1, ls, .int z :: st, w) r) : mm_X Z d M (pc, ls, .long y :: .long x :: st, w) r := by
  subst hz
  refine mm_xstep (S' := (pc + 1, ls, .int (lg_cmp x y) :: st, w)) ?_ g
  unfold mm_act
  dsimp only
  rw [hc]
  rfl
/-! Arrays.fill with 0 of an array that is all 0 -/
theorem mm_upd00 (k : Nat) : upd (fun _ => (0 : Int32)) k 0 = fun _ => 0 := by
  funext j
  unfold upd
  split <;> rfl
theorem mm_fill1 {Z : Nat → Option (Nat × (Nat → Int32))} {d a n : Nat} {w : mm_W} (ha : mm_ar w a = some (.int, n, .inl (fun _ => 0))) (hn : n < 2147483648) : ∀ (m k : Nat), k + m = n → mm_X Z d 13 (5, [some (.ref a), some (.int 0), some (.int (Int32.ofNat k)), some (.int (Int32.ofNat n))], [], w) (.inl none, w) := by
  intro m
  induction m with
  | zero =>
    intro k hk
    obtain rfl : k = n := by omega
    refine mm_xk (S' := (7, [some (.ref a), some (.int 0), some (.int (Int32.ofNat k)), some (.int (Int32.ofNat k))], [.int (Int32.ofNat k), .int (Int32.ofNat k)], w)) 2 10 rfl ?_
    refine mm_xif2 rfl true (mm_ge1 (a := (k : Int)) (b := (k : Int)) (mm_nat hn) (mm_nat hn) (by omega)) rfl ?_
    exact mm_xfin rfl
  | succ m ih =>
    intro k hk
    refine mm_xk (S' := (7, [some (.ref a), some (.int 0), some (.int (Int32.ofNat k)), some (.int (Int32.ofNat n))], [.int (Int32.ofNat n), .int (Int32.ofNat k)], w)) 2 10 rfl ?_
    refine mm_xif2 rfl false (mm_ge0 (a := (k : Int)) (b := (n : Int)) (mm_nat (by omega)) (mm_nat hn) (by omega)) rfl ?_
    refine mm_xk (S' := (13, [some (.ref a), some (.int 0), some (.int (Int32.ofNat k)), some (.int (Int32.ofNat n))], [.int 0, .int (Int32.ofNat k), .ref a], w)) 3 10 rfl ?_
    refine mm_xist rfl ha (mm_bdn (by omega) hn) ?_
    rw [mm_upd00, mm_ar_self ha]
    refine mm_xk (S' := (5, [some (.ref a), some (.int 0), some (.int (Int32.ofNat k + Int32.ofInt 1)), some (.int (Int32.ofNat n))], [], w)) 2 10 rfl ?_
    rw [mm_suc]
    exact ih (k + 1) (by omega)
theorem mm_fill0 {Z : Nat → Option (Nat × (Nat → Int32))} {d a n : Nat} {w : mm_W} (ha : mm_ar w a = some (.int, n, .inl (fun _ => 0))) (hn : Nat.blt n 2147483648 = true) : mm_X Z d 13 (0, [some (.ref a), some (.int 0), none, none], [], w) (.inl none, w) := by
  have hn2 : n < 2147483648 := by simpa [Nat.blt_eq] using hn
  refine mm_xk (S' := (3, [some (.ref a), some (.int 0), some (.int 0), none], [.ref a], w)) 3 10 rfl ?_
  refine mm_xlen rfl ha ?_
  refine mm_xk (S' := (5, [some (.ref a), some (.int 0), some (.int (Int32.ofNat 0)), some (.int (Int32.ofNat n))], [], w)) 1 10 rfl ?_
  exact mm_fill1 ha hn2 n 0 (by omega)
theorem mm_xist0 {Z : Nat → Option (Nat × (Nat → Int32))} {d M pc len a n : Nat} {ls : List (Option Value)} {st : List Value} {w : mm_W} {r : mm_Rs × mm_W} {i : Int32} (hc : (mm_code M)[pc]? = some (some (.iastore, len))) (ha : mm_ar w a = some (.int, n, .inl (fun _ => 0))) (hi : mm_bd i n) (g : mm_X Z d M (pc + 1, ls, st, w) r) : mm_X Z d M (pc, ls, .int 0 :: .int i :: .ref a :: st, w) r := by
  refine mm_xist hc ha hi ?_
  rw [mm_upd00, mm_ar_self ha]
  exact g
