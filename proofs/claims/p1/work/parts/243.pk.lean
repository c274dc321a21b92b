/-! pack: the loops over the places -/
abbrev mm_I7 (f : Nat → Int32) : mm_E := .inl (.int, 367, .inl f)
def mm_W4 (w : mm_W) (s : Nat) (a b c e : Nat → Int32) : mm_W := (((w.set s (mm_I7 a)).set (s + 1) (mm_I7 b)).set (s + 2) (mm_I7 c)).set (s + 3) (mm_I7 e)
section MW4
variable {w : mm_W} {s k : Nat} {a b c e a' : Nat → Int32}
theorem mm_W4_0 : (mm_W4 w s a b c e).set s (mm_I7 a') = mm_W4 w s a' b c e := by
  unfold mm_W4
  rw [List.set_comm (i := s + 3) (j := s) _ _ (by omega), List.set_comm (i := s + 2) (j := s) _ _ (by omega), List.set_comm (i := s + 1) (j := s) _ _ (by omega), List.set_set]
theorem mm_W4_1 : (mm_W4 w s a b c e).set (s + 1) (mm_I7 a') = mm_W4 w s a a' c e := by
  unfold mm_W4
  rw [List.set_comm (i := s + 3) (j := s + 1) _ _ (by omega), List.set_comm (i := s + 2) (j := s + 1) _ _ (by omega), List.set_set]
theorem mm_W4_2 : (mm_W4 w s a b c e).set (s + 2) (mm_I7 a') = mm_W4 w s a b a' e := by
  unfold mm_W4
  rw [List.set_comm (i := s + 3) (j := s + 2) _ _ (by omega), List.set_set]
theorem mm_W4_3 : (mm_W4 w s a b c e).set (s + 3) (mm_I7 a') = mm_W4 w s a b c a' := by
  unfold mm_W4
  rw [List.set_set]
theorem mm_W4_at (h : k < s ∨ s + 3 < k) : (mm_W4 w s a b c e)[k]? = w[k]? := by
  unfold mm_W4
  rw [List.getElem?_set_ne (by omega), List.getElem?_set_ne (by omega), List.getElem?_set_ne (by omega), List.getElem?_set_ne (by omega)]
theorem mm_W4_obj {q : Nat × List Value} (ho : mm_obj w k = some q) (h : k < s ∨ s + 3 < k) : mm_obj (mm_W4 w s a b c e) k = some q := by
  obtain ⟨c1, fs⟩ := q
  obtain ⟨h1, h2⟩ := mm_obj_at ho
  exact mm_obj_of h1 (by rw [mm_W4_at h]; exact h2)
theorem mm_W4_arO {q : FieldType × vp_A} (ho : mm_ar w k = some q) (h : k < s ∨ s + 3 < k) : mm_ar (mm_W4 w s a b c e) k = some q := by
  obtain ⟨h1, h2⟩ := mm_ar_at ho
  exact mm_ar_of h1 (by rw [mm_W4_at h]; exact h2)
theorem mm_W4_ar0 (hl : s + 3 < w.length) (h : s + 3 < 1000000) : mm_ar (mm_W4 w s a b c e) s = some (.int, 367, .inl a) := by
  refine mm_ar_of (by omega) ?_
  unfold mm_W4
  rw [List.getElem?_set_ne (by omega), List.getElem?_set_ne (by omega), List.getElem?_set_ne (by omega), List.getElem?_set_self (by omega)]
theorem mm_W4_ar1 (hl : s + 3 < w.length) (h : s + 3 < 1000000) : mm_ar (mm_W4 w s a b c e) (s + 1) = some (.int, 367, .inl b) := by
  refine mm_ar_of (by omega) ?_
  unfold mm_W4
  rw [List.getElem?_set_ne (by omega), List.getElem?_set_ne (by omega), List.getElem?_set_self (by rw [List.length_set]; omega)]
theorem mm_W4_ar2 (hl : s + 3 < w.length) (h : s + 3 < 1000000) : mm_ar (mm_W4 w s a b c e) (s + 2) = some (.int, 367, .inl c) := by
  refine mm_ar_of (by omega) ?_
  unfold mm_W4
  rw [List.getElem?_set_ne (by omega), List.getElem?_set_self (by simp only [List.length_set]; omega)]
theorem mm_W4_ar3 (hl : s + 3 < w.length) (h : s + 3 < 1000000) : mm_ar (mm_W4 w s a b c e) (s + 3) = some (.int, 367, .inl e) := by
  refine mm_ar_of (by omega) ?_
  unfold mm_W4
  rw [List.getElem?_set_self (by simp only [List.length_set]; omega)]
theorem mm_W4_self (h0 : mm_ar w s = some (.int, 367, .inl a)) (h1 : mm_ar w (s + 1) = some (.int, 367, .inl b)) (h2 : mm_ar w (s + 2) = some (.int, 367, .inl c)) (h3 : mm_ar w (s + 3) = some (.int, 367, .inl e)) : mm_W4 w s a b c e = w := by
  unfold mm_W4
  rw [mm_ar_self h0, mm_ar_self h1, mm_ar_self h2, mm_ar_self h3]
end MW4
section MPK
variable {Z : Nat → Option (Nat × (Nat → Int32))} {d : Nat}
theorem mm_lpB {l1 : Option Value} {fi : Int32} {fs : List Value} (hf : fs[1]? = some (.ref 11)) : ∀ (m k : Nat) (f : Nat → Int32) (w : mm_W), k + m = 367 → mm_obj w 9 = some (4, fs) → mm_ar w 11 = some (.int, 1468, .inl f) →
    ∃ f', ∀ r, mm_X Z d 33 (57, [some (.ref 9), l1, some (.int fi), some (.int 367)], [], w.set 11 (.inl (.int, 1468, .inl f'))) r → mm_X Z d 33 (22, [some (.ref 9), l1, some (.int fi), some (.int (Int32.ofNat k))], [], w) r := by
  intro m
  induction m with
  | zero =>
    intro k f w hk ho ha
    refine ⟨f, fun r g => ?_⟩
    obtain rfl : k = 367 := by omega
    rw [mm_ar_self ha] at g
    refine mm_xk (S' := (26, [some (.ref 9), l1, some (.int fi), some (.int 367)], [.int 367, .int 367], w)) 2 10 rfl ?_
    exact mm_xif2 rfl true (mm_ge1 (a := 367) (b := 367) rfl rfl (by omega)) rfl g
  | succ m ih =>
    intro k f w hk ho ha
    have e0 : (4 : Int32) * Int32.ofNat k + 0 = Int32.ofNat (4 * k + 0) := by rw [Int32.ofNat_add, Int32.ofNat_mul]; rfl
    have e3 : (4 : Int32) * Int32.ofNat k + 3 = Int32.ofNat (4 * k + 3) := by rw [Int32.ofNat_add, Int32.ofNat_mul]; rfl
    have ha1 : mm_ar (w.set 11 (.inl (.int, 1468, .inl (upd f (Int32.ofNat (4 * k + 0)).toNatClampNeg fi)))) 11 = some (.int, 1468, .inl (upd f (Int32.ofNat (4 * k + 0)).toNatClampNeg fi)) := mm_ar_eq ha
    have ho1 := mm_obj_ne (b := 11) (E := .inl (.int, 1468, .inl (upd f (Int32.ofNat (4 * k + 0)).toNatClampNeg fi))) ho (by decide)
    obtain ⟨f', hg⟩ := ih (k + 1) (upd (upd f (Int32.ofNat (4 * k + 0)).toNatClampNeg fi) (Int32.ofNat (4 * k + 3)).toNatClampNeg 1) (w.set 11 (.inl (.int, 1468, .inl (upd (upd f (Int32.ofNat (4 * k + 0)).toNatClampNeg fi) (Int32.ofNat (4 * k + 3)).toNatClampNeg 1)))) (by omega) (mm_obj_ne ho (by decide)) (mm_ar_eq ha)
    refine ⟨f', fun r g => ?_⟩
    have g2 := hg r (by rw [List.set_set]; exact g)
    refine mm_xk (S' := (26, [some (.ref 9), l1, some (.int fi), some (.int (Int32.ofNat k))], [.int 367, .int (Int32.ofNat k)], w)) 2 10 rfl ?_
    refine mm_xif2 rfl false (mm_ge0 (a := (k : Int)) (b := 367) (mm_nat (by omega)) rfl (by omega)) rfl ?_
    refine mm_xk (S' := (30, [some (.ref 9), l1, some (.int fi), some (.int (Int32.ofNat k))], [.ref 9], w)) 1 10 rfl ?_
    refine mm_xget rfl ho rfl hf ?_
    refine mm_xk (S' := (39, [some (.ref 9), l1, some (.int fi), some (.int (Int32.ofNat k))], [.int fi, .int ((4 : Int32) * Int32.ofNat k + 0), .ref 11], w)) 6 10 rfl ?_
    rw [e0]
    refine mm_xist rfl ha (mm_bdn (by omega) (by decide)) ?_
    refine mm_xk (S' := (41, [some (.ref 9), l1, some (.int fi), some (.int (Int32.ofNat k))], [.ref 9], _)) 1 10 rfl ?_
    refine mm_xget rfl ho1 rfl hf ?_
    refine mm_xk (S' := (50, [some (.ref 9), l1, some (.int fi), some (.int (Int32.ofNat k))], [.int 1, .int ((4 : Int32) * Int32.ofNat k + 3), .ref 11], _)) 6 10 rfl ?_
    rw [e3]
    refine mm_xist rfl ha1 (mm_bdn (by omega) (by decide)) ?_
    rw [List.set_set]
    refine mm_xk (S' := (22, [some (.ref 9), l1, some (.int fi), some (.int (Int32.ofNat k + Int32.ofInt 1))], [], _)) 2 10 rfl ?_
    rw [mm_suc]
    exact g2
theorem mm_lpP {w : mm_W} {fs : List Value} {rg : Int32} (ho : mm_obj w 30 = some (10, fs)) (hl : 39 < w.length) (hA : fs[27]? = some (.ref 36)) (hB : fs[28]? = some (.ref 37)) (hC : fs[29]? = some (.ref 38)) (hN : fs[30]? = some (.ref 39)) (hR : fs[24]? = some (.int rg)) :
    ∀ (m k : Nat) (a b c e : Nat → Int32), k + m = 367 → ∃ a' b' c' e', ∀ r, mm_X Z (d + 1) 151 (56, [some (.ref 30), some (.int 367)], [], mm_W4 w 36 a' b' c' e') r → mm_X Z (d + 1) 151 (2, [some (.ref 30), some (.int (Int32.ofNat k))], [], mm_W4 w 36 a b c e) r := by
  intro m
  induction m with
  | zero =>
    intro k a b c e hk
    refine ⟨a, b, c, e, fun r g => ?_⟩
    obtain rfl : k = 367 := by omega
    refine mm_xk (S' := (6, [some (.ref 30), some (.int 367)], [.int 367, .int 367], mm_W4 w 36 a b c e)) 2 10 rfl ?_
    exact mm_xif2 rfl true (mm_ge1 (a := 367) (b := 367) rfl rfl (by omega)) rfl g
  | succ m ih =>
    intro k a b c e hk
    have hbd := mm_bdn (k := k) (n := 367) (by omega) (by decide)
    obtain ⟨a', b', c', e', hg⟩ := ih (k + 1) (upd a (Int32.ofNat k).toNatClampNeg (if (rg + 32) / 64 < 2 then 2 else (rg + 32) / 64)) (upd b (Int32.ofNat k).toNatClampNeg 0) (upd c (Int32.ofNat k).toNatClampNeg 0) (upd e (Int32.ofNat k).toNatClampNeg 1) (by omega)
    refine ⟨a', b', c', e', fun r g => ?_⟩
    have g2 := hg r g
    refine mm_xk (S' := (6, [some (.ref 30), some (.int (Int32.ofNat k))], [.int 367, .int (Int32.ofNat k)], mm_W4 w 36 a b c e)) 2 10 rfl ?_
    refine mm_xif2 rfl false (mm_ge0 (a := (k : Int)) (b := 367) (mm_nat (by omega)) rfl (by omega)) rfl ?_
    refine mm_xk (S' := (10, [some (.ref 30), some (.int (Int32.ofNat k))], [.ref 30], _)) 1 10 rfl ?_
    refine mm_xget rfl (mm_W4_obj ho (by omega)) rfl hA ?_
    refine mm_xk (S' := (16, [some (.ref 30), some (.int (Int32.ofNat k))], [.ref 30, .int 2, .int (Int32.ofNat k), .ref 36], _)) 3 10 rfl ?_
    refine mm_xget rfl (mm_W4_obj ho (by omega)) rfl hR ?_
    refine mm_xk (S' := (25, [some (.ref 30), some (.int (Int32.ofNat k))], [.int ((rg + 32) / 64), .int 2, .int (Int32.ofNat k), .ref 36], _)) 4 10 rfl ?_
    refine mm_xcall (T := 140) rfl (mm_more 2 ((rg + 32) / 64)) ?_
    refine mm_xist rfl (mm_W4_ar0 hl (by decide)) hbd ?_
    rw [mm_W4_0]
    refine mm_xk (S' := (30, [some (.ref 30), some (.int (Int32.ofNat k))], [.ref 30], _)) 1 10 rfl ?_
    refine mm_xget rfl (mm_W4_obj ho (by omega)) rfl hB ?_
    refine mm_xk (S' := (35, [some (.ref 30), some (.int (Int32.ofNat k))], [.int 0, .int (Int32.ofNat k), .ref 37], _)) 2 10 rfl ?_
    refine mm_xist rfl (mm_W4_ar1 (s := 36) hl (by decide)) hbd ?_
    rw [mm_W4_1 (s := 36)]
    refine mm_xk (S' := (37, [some (.ref 30), some (.int (Int32.ofNat k))], [.ref 30], _)) 1 10 rfl ?_
    refine mm_xget rfl (mm_W4_obj ho (by omega)) rfl hC ?_
    refine mm_xk (S' := (42, [some (.ref 30), some (.int (Int32.ofNat k))], [.int 0, .int (Int32.ofNat k), .ref 38], _)) 2 10 rfl ?_
    refine mm_xist rfl (mm_W4_ar2 (s := 36) hl (by decide)) hbd ?_
    rw [mm_W4_2 (s := 36)]
    refine mm_xk (S' := (44, [some (.ref 30), some (.int (Int32.ofNat k))], [.ref 30], _)) 1 10 rfl ?_
    refine mm_xget rfl (mm_W4_obj ho (by omega)) rfl hN ?_
    refine mm_xk (S' := (49, [some (.ref 30), some (.int (Int32.ofNat k))], [.int 1, .int (Int32.ofNat k), .ref 39], _)) 2 10 rfl ?_
    refine mm_xist rfl (mm_W4_ar3 (s := 36) hl (by decide)) hbd ?_
    rw [mm_W4_3 (s := 36)]
    refine mm_xk (S' := (2, [some (.ref 30), some (.int (Int32.ofNat k + Int32.ofInt 1))], [], _)) 2 10 rfl ?_
    rw [mm_suc]
    exact g2
theorem mm_lpK {w : mm_W} {fs : List Value} {pa pb pc pn : Nat → Int32} (ho : mm_obj w 30 = some (10, fs)) (hl : 43 < w.length) (hA : fs[27]? = some (.ref 36)) (hB : fs[28]? = some (.ref 37)) (hC : fs[29]? = some (.ref 38)) (hN : fs[30]? = some (.ref 39)) (kA : fs[31]? = some (.ref 40)) (kB : fs[32]? = some (.ref 41)) (kC : fs[33]? = some (.ref 42)) (kN : fs[34]? = some (.ref 43))
    (a0 : mm_ar w 36 = some (.int, 367, .inl pa)) (a1 : mm_ar w 37 = some (.int, 367, .inl pb)) (a2 : mm_ar w 38 = some (.int, 367, .inl pc)) (a3 : mm_ar w 39 = some (.int, 367, .inl pn)) :
    ∀ (m k : Nat) (a b c e : Nat → Int32), k + m = 367 → ∃ a' b' c' e', mm_X Z d 176 (2, [some (.ref 30), some (.int (Int32.ofNat k))], [], mm_W4 w 40 a b c e) (.inl none, mm_W4 w 40 a' b' c' e') := by
  intro m
  induction m with
  | zero =>
    intro k a b c e hk
    refine ⟨a, b, c, e, ?_⟩
    obtain rfl : k = 367 := by omega
    refine mm_xk (S' := (6, [some (.ref 30), some (.int 367)], [.int 367, .int 367], mm_W4 w 40 a b c e)) 2 10 rfl ?_
    exact mm_xif2 rfl true (mm_ge1 (a := 367) (b := 367) rfl rfl (by omega)) rfl (mm_xfin rfl)
  | succ m ih =>
    intro k a b c e hk
    have hbd := mm_bdn (k := k) (n := 367) (by omega) (by decide)
    obtain ⟨a', b', c', e', g2⟩ := ih (k + 1) (upd a (Int32.ofNat k).toNatClampNeg (pa (Int32.ofNat k).toNatClampNeg)) (upd b (Int32.ofNat k).toNatClampNeg (pb (Int32.ofNat k).toNatClampNeg)) (upd c (Int32.ofNat k).toNatClampNeg (pc (Int32.ofNat k).toNatClampNeg)) (upd e (Int32.ofNat k).toNatClampNeg (pn (Int32.ofNat k).toNatClampNeg)) (by omega)
    refine ⟨a', b', c', e', ?_⟩
    refine mm_xk (S' := (6, [some (.ref 30), some (.int (Int32.ofNat k))], [.int 367, .int (Int32.ofNat k)], mm_W4 w 40 a b c e)) 2 10 rfl ?_
    refine mm_xif2 rfl false (mm_ge0 (a := (k : Int)) (b := 367) (mm_nat (by omega)) rfl (by omega)) rfl ?_
    refine mm_xk (S' := (10, [some (.ref 30), some (.int (Int32.ofNat k))], [.ref 30], _)) 1 10 rfl ?_
    refine mm_xget rfl (mm_W4_obj ho (by omega)) rfl kA ?_
    refine mm_xk (S' := (15, [some (.ref 30), some (.int (Int32.ofNat k))], [.ref 30, .int (Int32.ofNat k), .ref 40], _)) 2 10 rfl ?_
    refine mm_xget rfl (mm_W4_obj ho (by omega)) rfl hA ?_
    refine mm_xk (S' := (19, [some (.ref 30), some (.int (Int32.ofNat k))], [.int (Int32.ofNat k), .ref 36, .int (Int32.ofNat k), .ref 40], _)) 1 10 rfl ?_
    refine mm_xild rfl (mm_W4_arO a0 (by omega)) hbd ?_
    refine mm_xist rfl (mm_W4_ar0 hl (by decide)) hbd ?_
    rw [mm_W4_0]
    refine mm_xk (S' := (22, [some (.ref 30), some (.int (Int32.ofNat k))], [.ref 30], _)) 1 10 rfl ?_
    refine mm_xget rfl (mm_W4_obj ho (by omega)) rfl kB ?_
    refine mm_xk (S' := (27, [some (.ref 30), some (.int (Int32.ofNat k))], [.ref 30, .int (Int32.ofNat k), .ref 41], _)) 2 10 rfl ?_
    refine mm_xget rfl (mm_W4_obj ho (by omega)) rfl hB ?_
    refine mm_xk (S' := (31, [some (.ref 30), some (.int (Int32.ofNat k))], [.int (Int32.ofNat k), .ref 37, .int (Int32.ofNat k), .ref 41], _)) 1 10 rfl ?_
    refine mm_xild rfl (mm_W4_arO a1 (by omega)) hbd ?_
    refine mm_xist rfl (mm_W4_ar1 (s := 40) hl (by decide)) hbd ?_
    rw [mm_W4_1 (s := 40)]
    refine mm_xk (S' := (34, [some (.ref 30), some (.int (Int32.ofNat k))], [.ref 30], _)) 1 10 rfl ?_
    refine mm_xget rfl (mm_W4_obj ho (by omega)) rfl kC ?_
    refine mm_xk (S' := (39, [some (.ref 30), some (.int (Int32.ofNat k))], [.ref 30, .int (Int32.ofNat k), .ref 42], _)) 2 10 rfl ?_
    refine mm_xget rfl (mm_W4_obj ho (by omega)) rfl hC ?_
    refine mm_xk (S' := (43, [some (.ref 30), some (.int (Int32.ofNat k))], [.int (Int32.ofNat k), .ref 38, .int (Int32.ofNat k), .ref 42], _)) 1 10 rfl ?_
    refine mm_xild rfl (mm_W4_arO a2 (by omega)) hbd ?_
    refine mm_xist rfl (mm_W4_ar2 (s := 40) hl (by decide)) hbd ?_
    rw [mm_W4_2 (s := 40)]
    refine mm_xk (S' := (46, [some (.ref 30), some (.int (Int32.ofNat k))], [.ref 30], _)) 1 10 rfl ?_
    refine mm_xget rfl (mm_W4_obj ho (by omega)) rfl kN ?_
    refine mm_xk (S' := (51, [some (.ref 30), some (.int (Int32.ofNat k))], [.ref 30, .int (Int32.ofNat k), .ref 43], _)) 2 10 rfl ?_
    refine mm_xget rfl (mm_W4_obj ho (by omega)) rfl hN ?_
    refine mm_xk (S' := (55, [some (.ref 30), some (.int (Int32.ofNat k))], [.int (Int32.ofNat k), .ref 39, .int (Int32.ofNat k), .ref 43], _)) 1 10 rfl ?_
    refine mm_xild rfl (mm_W4_arO a3 (by omega)) hbd ?_
    refine mm_xist rfl (mm_W4_ar3 (s := 40) hl (by decide)) hbd ?_
    rw [mm_W4_3 (s := 40)]
    refine mm_xk (S' := (2, [some (.ref 30), some (.int (Int32.ofNat k + Int32.ofInt 1))], [], _)) 2 10 rfl ?_
    rw [mm_suc]
    exact g2
end MPK
theorem mm_lpP2 {Z : Nat → Option (Nat × (Nat → Int32))} {d : Nat} {w : mm_W} {fs : List Value} {rg : Int32} {a b c e : Nat → Int32} (ho : mm_obj w 30 = some (10, fs)) (hl : Nat.blt 39 w.length = true) (hA : fs[27]? = some (.ref 36)) (hB : fs[28]? = some (.ref 37)) (hC : fs[29]? = some (.ref 38)) (hN : fs[30]? = some (.ref 39)) (hR : fs[24]? = some (.int rg))
    (h0 : mm_ar w 36 = some (.int, 367, .inl a)) (h1 : mm_ar w 37 = some (.int, 367, .inl b)) (h2 : mm_ar w 38 = some (.int, 367, .inl c)) (h3 : mm_ar w 39 = some (.int, 367, .inl e)) :
    ∃ a' b' c' e', ∀ r, mm_X Z (d + 1) 151 (56, [some (.ref 30), some (.int 367)], [], mm_W4 w 36 a' b' c' e') r → mm_X Z (d + 1) 151 (2, [some (.ref 30), some (.int 0)], [], w) r := by
  have hl2 : 39 < w.length := by simpa [Nat.blt_eq] using hl
  obtain ⟨a', b', c', e', h⟩ := mm_lpP (Z := Z) (d := d) ho hl2 hA hB hC hN hR 367 0 a b c e (by omega)
  rw [mm_W4_self (s := 36) h0 h1 h2 h3] at h
  exact ⟨a', b', c', e', h⟩
theorem mm_lpK2 {Z : Nat → Option (Nat × (Nat → Int32))} {d : Nat} {w : mm_W} {fs : List Value} {pa pb pc pn a b c e : Nat → Int32} (ho : mm_obj w 30 = some (10, fs)) (hl : Nat.blt 43 w.length = true) (hA : fs[27]? = some (.ref 36)) (hB : fs[28]? = some (.ref 37)) (hC : fs[29]? = some (.ref 38)) (hN : fs[30]? = some (.ref 39)) (kA : fs[31]? = some (.ref 40)) (kB : fs[32]? = some (.ref 41)) (kC : fs[33]? = some (.ref 42)) (kN : fs[34]? = some (.ref 43))
    (a0 : mm_ar w 36 = some (.int, 367, .inl pa)) (a1 : mm_ar w 37 = some (.int, 367, .inl pb)) (a2 : mm_ar w 38 = some (.int, 367, .inl pc)) (a3 : mm_ar w 39 = some (.int, 367, .inl pn))
    (h0 : mm_ar w 40 = some (.int, 367, .inl a)) (h1 : mm_ar w 41 = some (.int, 367, .inl b)) (h2 : mm_ar w 42 = some (.int, 367, .inl c)) (h3 : mm_ar w 43 = some (.int, 367, .inl e)) :
    ∃ a' b' c' e', mm_X Z d 176 (2, [some (.ref 30), some (.int 0)], [], w) (.inl none, mm_W4 w 40 a' b' c' e') := by
  have hl2 : 43 < w.length := by simpa [Nat.blt_eq] using hl
  obtain ⟨a', b', c', e', h⟩ := mm_lpK (Z := Z) (d := d) ho hl2 hA hB hC hN kA kB kC kN a0 a1 a2 a3 367 0 a b c e (by omega)
  rw [mm_W4_self (s := 40) h0 h1 h2 h3] at h
  exact ⟨a', b', c', e', h⟩
