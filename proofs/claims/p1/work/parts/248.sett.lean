theorem mm_pth0 {xs : Nat → Int32} {d : Nat} {w : mm_W} {fs : List Value} {nr l t : Int32} (ho : mm_obj w 8 = some (3, fs)) (hf : fs[0]? = some (.int 255)) (hn : fs[1]? = some (.int nr)) (ht : mm_pl (3 + (3 * nr)) l = t) : mm_X (mm_Z 9 xs) d 29 (0, [some (.ref 8), some (.int 0), some (.int l), none, none], [], w) (.inl (some (.int t)), w) := by
  subst ht
  unfold mm_pl
  refine mm_xk (S' := (1, [some (.ref 8), some (.int 0), some (.int l), none, none], [.ref 8], w)) 1 10 rfl ?_
  refine mm_xget rfl ho rfl hf ?_
  refine mm_xk (S' := (11, [some (.ref 8), some (.int 0), some (.int l), none, none], [.ref 8], w)) 3 10 rfl ?_
  refine mm_xget rfl ho rfl hf ?_
  refine mm_xk (S' := (56, [some (.ref 8), some (.int 0), some (.int l), none, some (.int 1)], [.ref 8, .int 3, .int 3], w)) 24 10 rfl ?_
  refine mm_xget rfl ho rfl hn ?_
  refine mm_xk (S' := (107, [some (.ref 8), some (.int 0), some (.int l), some (.int (3 + (3 * nr))), some (.int 1)], [.int l, .int (3 + (3 * nr))], w)) 6 10 rfl ?_
  by_cases h : (3 + (3 * nr) : Int32) < l
  · rw [if_pos h]
    refine mm_xif2 rfl true (decide_eq_true h) rfl ?_
    exact mm_xk (S' := (123, [some (.ref 8), some (.int 0), some (.int l), some (.int (3 + (3 * nr))), some (.int 1)], [.int l], w)) 2 10 rfl (mm_xfin rfl)
  · rw [if_neg h]
    refine mm_xif2 rfl false (decide_eq_false h) rfl ?_
    refine mm_xk (S' := (112, [some (.ref 8), some (.int 0), some (.int l), some (.int (3 + (3 * nr))), some (.int 1)], [.ref 8, .int (3 + (3 * nr))], w)) 2 10 rfl ?_
    refine mm_xget rfl ho rfl hf ?_
    by_cases h2 : (3 + (3 * nr) : Int32) ≤ 255
    · rw [if_pos h2]
      refine mm_xif2 rfl true (decide_eq_true h2) rfl ?_
      exact mm_xk (S' := (123, [some (.ref 8), some (.int 0), some (.int l), some (.int (3 + (3 * nr))), some (.int 1)], [.int (3 + (3 * nr))], w)) 1 10 rfl (mm_xfin rfl)
    · rw [if_neg h2]
      refine mm_xif2 rfl false (decide_eq_false h2) rfl ?_
      exact mm_xk (S' := (123, [some (.ref 8), some (.int 0), some (.int l), some (.int (3 + (3 * nr))), some (.int 1)], [.int l], w)) 2 10 rfl (mm_xfin rfl)
theorem mm_pth1 {xs : Nat → Int32} {d : Nat} {w : mm_W} {fs : List Value} {nr l t : Int32} (ho : mm_obj w 8 = some (3, fs)) (hf : fs[0]? = some (.int 255)) (hn : fs[1]? = some (.int nr)) (ht : mm_pl (7 + (5 * nr)) l = t) : mm_X (mm_Z 9 xs) d 29 (0, [some (.ref 8), some (.int 1), some (.int l), none, none], [], w) (.inl (some (.int t)), w) := by
  subst ht
  unfold mm_pl
  refine mm_xk (S' := (1, [some (.ref 8), some (.int 1), some (.int l), none, none], [.ref 8], w)) 1 10 rfl ?_
  refine mm_xget rfl ho rfl hf ?_
  refine mm_xk (S' := (11, [some (.ref 8), some (.int 1), some (.int l), none, none], [.ref 8], w)) 3 10 rfl ?_
  refine mm_xget rfl ho rfl hf ?_
  refine mm_xk (S' := (56, [some (.ref 8), some (.int 1), some (.int l), none, some (.int 1)], [.ref 8, .int 5, .int 7], w)) 24 10 rfl ?_
  refine mm_xget rfl ho rfl hn ?_
  refine mm_xk (S' := (107, [some (.ref 8), some (.int 1), some (.int l), some (.int (7 + (5 * nr))), some (.int 1)], [.int l, .int (7 + (5 * nr))], w)) 6 10 rfl ?_
  by_cases h : (7 + (5 * nr) : Int32) < l
  · rw [if_pos h]
    refine mm_xif2 rfl true (decide_eq_true h) rfl ?_
    exact mm_xk (S' := (123, [some (.ref 8), some (.int 1), some (.int l), some (.int (7 + (5 * nr))), some (.int 1)], [.int l], w)) 2 10 rfl (mm_xfin rfl)
  · rw [if_neg h]
    refine mm_xif2 rfl false (decide_eq_false h) rfl ?_
    refine mm_xk (S' := (112, [some (.ref 8), some (.int 1), some (.int l), some (.int (7 + (5 * nr))), some (.int 1)], [.ref 8, .int (7 + (5 * nr))], w)) 2 10 rfl ?_
    refine mm_xget rfl ho rfl hf ?_
    by_cases h2 : (7 + (5 * nr) : Int32) ≤ 255
    · rw [if_pos h2]
      refine mm_xif2 rfl true (decide_eq_true h2) rfl ?_
      exact mm_xk (S' := (123, [some (.ref 8), some (.int 1), some (.int l), some (.int (7 + (5 * nr))), some (.int 1)], [.int (7 + (5 * nr))], w)) 1 10 rfl (mm_xfin rfl)
    · rw [if_neg h2]
      refine mm_xif2 rfl false (decide_eq_false h2) rfl ?_
      exact mm_xk (S' := (123, [some (.ref 8), some (.int 1), some (.int l), some (.int (7 + (5 * nr))), some (.int 1)], [.int l], w)) 2 10 rfl (mm_xfin rfl)
theorem mm_pth2 {xs : Nat → Int32} {d : Nat} {w : mm_W} {fs : List Value} {nr l t : Int32} (ho : mm_obj w 8 = some (3, fs)) (hf : fs[0]? = some (.int 255)) (hn : fs[1]? = some (.int nr)) (ht : mm_pl (21 + (7 * nr)) l = t) : mm_X (mm_Z 9 xs) d 29 (0, [some (.ref 8), some (.int 2), some (.int l), none, none], [], w) (.inl (some (.int t)), w) := by
  subst ht
  unfold mm_pl
  refine mm_xk (S' := (1, [some (.ref 8), some (.int 2), some (.int l), none, none], [.ref 8], w)) 1 10 rfl ?_
  refine mm_xget rfl ho rfl hf ?_
  refine mm_xk (S' := (11, [some (.ref 8), some (.int 2), some (.int l), none, none], [.ref 8], w)) 3 10 rfl ?_
  refine mm_xget rfl ho rfl hf ?_
  refine mm_xk (S' := (56, [some (.ref 8), some (.int 2), some (.int l), none, some (.int 1)], [.ref 8, .int 7, .int 21], w)) 24 10 rfl ?_
  refine mm_xget rfl ho rfl hn ?_
  refine mm_xk (S' := (107, [some (.ref 8), some (.int 2), some (.int l), some (.int (21 + (7 * nr))), some (.int 1)], [.int l, .int (21 + (7 * nr))], w)) 6 10 rfl ?_
  by_cases h : (21 + (7 * nr) : Int32) < l
  · rw [if_pos h]
    refine mm_xif2 rfl true (decide_eq_true h) rfl ?_
    exact mm_xk (S' := (123, [some (.ref 8), some (.int 2), some (.int l), some (.int (21 + (7 * nr))), some (.int 1)], [.int l], w)) 2 10 rfl (mm_xfin rfl)
  · rw [if_neg h]
    refine mm_xif2 rfl false (decide_eq_false h) rfl ?_
    refine mm_xk (S' := (112, [some (.ref 8), some (.int 2), some (.int l), some (.int (21 + (7 * nr))), some (.int 1)], [.ref 8, .int (21 + (7 * nr))], w)) 2 10 rfl ?_
    refine mm_xget rfl ho rfl hf ?_
    by_cases h2 : (21 + (7 * nr) : Int32) ≤ 255
    · rw [if_pos h2]
      refine mm_xif2 rfl true (decide_eq_true h2) rfl ?_
      exact mm_xk (S' := (123, [some (.ref 8), some (.int 2), some (.int l), some (.int (21 + (7 * nr))), some (.int 1)], [.int (21 + (7 * nr))], w)) 1 10 rfl (mm_xfin rfl)
    · rw [if_neg h2]
      refine mm_xif2 rfl false (decide_eq_false h2) rfl ?_
      exact mm_xk (S' := (123, [some (.ref 8), some (.int 2), some (.int l), some (.int (21 + (7 * nr))), some (.int 1)], [.int l], w)) 2 10 rfl (mm_xfin rfl)
theorem mm_bits {Z : Nat → Option (Nat × (Nat → Int32))} {d : Nat} {w : mm_W} {n : Int32} : ∀ (m k : Nat), k + m = 30 → ∃ b, mm_X Z d 30 (2, [some (.int n), some (.int (Int32.ofNat k))], [], w) (.inl (some (.int b)), w) := by
  intro m
  induction m with
  | zero =>
    intro k hk
    obtain rfl : k = 30 := by omega
    refine ⟨30, ?_⟩
    refine mm_xk (S' := (5, [some (.int n), some (.int 30)], [.int 30, .int 30], w)) 2 10 rfl ?_
    refine mm_xif2 rfl true (mm_ge1 (a := 30) (b := 30) rfl rfl (by omega)) rfl ?_
    exact mm_xk (S' := (22, [some (.int n), some (.int 30)], [.int 30], w)) 1 10 rfl (mm_xfin rfl)
  | succ m ih =>
    intro k hk
    rcases hb : mm_cmp .ge ((1 : Int32) <<< (Int32.ofNat k &&& 31)) n with _ | _
    · obtain ⟨b, hx⟩ := ih (k + 1) (by omega)
      refine ⟨b, ?_⟩
      refine mm_xk (S' := (5, [some (.int n), some (.int (Int32.ofNat k))], [.int 30, .int (Int32.ofNat k)], w)) 2 10 rfl ?_
      refine mm_xif2 rfl false (mm_ge0 (a := (k : Int)) (b := 30) (mm_nat (by omega)) rfl (by omega)) rfl ?_
      refine mm_xk (S' := (12, [some (.int n), some (.int (Int32.ofNat k))], [.int n, .int ((1 : Int32) <<< (Int32.ofNat k &&& 31))], w)) 4 10 rfl ?_
      refine mm_xif2 rfl false hb rfl ?_
      refine mm_xk (S' := (2, [some (.int n), some (.int (Int32.ofNat k + Int32.ofInt 1))], [], w)) 2 10 rfl ?_
      rw [mm_suc]
      exact hx
    · refine ⟨Int32.ofNat k, ?_⟩
      refine mm_xk (S' := (5, [some (.int n), some (.int (Int32.ofNat k))], [.int 30, .int (Int32.ofNat k)], w)) 2 10 rfl ?_
      refine mm_xif2 rfl false (mm_ge0 (a := (k : Int)) (b := 30) (mm_nat (by omega)) rfl (by omega)) rfl ?_
      refine mm_xk (S' := (12, [some (.int n), some (.int (Int32.ofNat k))], [.int n, .int ((1 : Int32) <<< (Int32.ofNat k &&& 31))], w)) 4 10 rfl ?_
      refine mm_xif2 rfl true hb rfl ?_
      exact mm_xk (S' := (22, [some (.int n), some (.int (Int32.ofNat k))], [.int (Int32.ofNat k)], w)) 1 10 rfl (mm_xfin rfl)
theorem mm_bitsE {Z : Nat → Option (Nat × (Nat → Int32))} {d : Nat} {w : mm_W} (n : Int32) : ∃ b, mm_X Z d 30 (0, [some (.int n), none], [], w) (.inl (some (.int b)), w) := by
  obtain ⟨b, hb⟩ := mm_bits (Z := Z) (d := d) (w := w) (n := n) 30 0 (by omega)
  exact ⟨b, mm_xk (S' := (2, [some (.int n), some (.int (Int32.ofNat 0))], [], w)) 2 10 rfl hb⟩
