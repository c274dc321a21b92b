/-! draw: the loops of the class and of the reference -/
section MDR
variable {Z : Nat → Option (Nat × (Nat → Int32))} {d : Nat}
theorem mm_xvirt {M pc ix len k n a cj T q3 : Nat} {tg : List (Nat × Nat × List Nat)} {q : List Nat} {ls ls0 : List (Option Value)} {st rest : List Value} {w w1 : mm_W} {fs : List Value} {v : Option Value} {r : mm_Rs × mm_W} (hc : (mm_code M)[pc]? = some (some (.invokevirtual ix, len))) (hi : mm_lk (mm_ip (mm_cn M)) ix = some (k, n, q3, tg)) (hk : k = 4 ∨ k = 5 ∨ k = 7) (hs : st[n]? = some (.ref a)) (ho : mm_obj w a = some (cj, fs)) (ht : mm_lk tg cj = some (T, q)) (hg : mm_goV T n st = some (.inr (.inr (T, ls0, rest)))) (hcall : mm_X Z d T (0, ls0, [], w) (.inl v, w1)) (g : mm_X Z (d + 1) M (pc + 3, ls, v.toList ++ rest, w1) r) : mm_X Z (d + 1) M (pc, ls, st, w) r := by
  refine mm_xcall (T := T) (ls0 := ls0) (rest := rest) ?_ hcall g
  unfold mm_act
  dsimp only
  rw [hc]
  simp only [mm_aVrt, hi, if_pos hk, hs, ho, ht]
  exact hg
def mm_lsD (l1 l2 l3 : Option Value) (wide high v u m g fi : Int32) (l11 l12 l13 l14 : Option Value) : List (Option Value) := [some (.ref 0), l1, l2, l3, some (.int wide), some (.int high), some (.int v), some (.int u), some (.int m), some (.int g), some (.int fi), l11, l12, l13, l14]
theorem mm_ofne {a b : Nat} (h : 1 ≤ a) (ha : a ≤ 64) (hb : b ≤ 64) : Int32.ofNat a + Int32.ofNat b ≠ 0 := by
  rw [← Int32.ofNat_add]
  intro h
  have e := congrArg Int32.toInt h
  rw [mm_nat (by omega)] at e
  have : (0 : Int32).toInt = 0 := rfl
  omega
abbrev mm_nz (n : Int32) : Int32 := (((n * 40503 + 12345) * (n * 40503 + 12345)).toUInt32 >>> ((7 : Int32).toUInt32 &&& Int32.toUInt32 31)).toInt32
abbrev mm_dsl (v u : Int32) (W H i j : Nat) : Int32 := v + (u - v) * (Int32.ofNat i + Int32.ofNat j) / (Int32.ofNat W + Int32.ofNat H)
abbrev mm_dvl (v u mk : Int32) (W H i j : Nat) : Int32 := mm_dsl v u W H i j + (mm_nz (Int32.ofNat i + Int32.ofNat W * Int32.ofNat j) &&& mk)
abbrev mm_mn0 (g x : Int32) : Int32 := if x < g then x else g
abbrev mm_mx0 (x : Int32) : Int32 := if 0 < x then x else 0
theorem mm_lpD1 {l1 l2 l3 : Option Value} {v u mk g : Int32} {W H F j : Nat} {fs0 fs1 : List Value} (hW1 : 1 ≤ W) (hW : W ≤ 64) (hH : H ≤ 64) (hF : F + j * 8 + W ≤ 64) (hf0 : fs0[0]? = some (.ref 1)) (hf1 : fs1[0]? = some (.int 8)) (hf2 : fs1[4]? = some (.ref 29)) :
    ∀ (m i : Nat) (f : Nat → Int32) (w : mm_W) (l13 l14 : Option Value), i + m = W → mm_obj w 0 = some (0, fs0) → mm_obj w 1 = some (2, fs1) → mm_ar w 29 = some (.int, 64, .inl f) →
    ∃ f' l13' l14', ∀ r, mm_X Z (d + 1) 95 (204, mm_lsD l1 l2 l3 (Int32.ofNat W) (Int32.ofNat H) v u mk g (Int32.ofNat F) (some (.int (Int32.ofNat j))) (some (.int (Int32.ofNat W))) l13' l14', [], w.set 29 (.inl (.int, 64, .inl f'))) r →
      mm_X Z (d + 1) 95 (115, mm_lsD l1 l2 l3 (Int32.ofNat W) (Int32.ofNat H) v u mk g (Int32.ofNat F) (some (.int (Int32.ofNat j))) (some (.int (Int32.ofNat i))) l13 l14, [], w) r := by
  intro m
  induction m with
  | zero =>
    intro i f w l13 l14 hi ho0 ho1 ha
    obtain rfl : i = W := by omega
    refine ⟨f, l13, l14, fun r gg => ?_⟩
    rw [mm_ar_self ha] at gg
    refine mm_xk (S' := (119, mm_lsD l1 l2 l3 (Int32.ofNat i) (Int32.ofNat H) v u mk g (Int32.ofNat F) (some (.int (Int32.ofNat j))) (some (.int (Int32.ofNat i))) l13 l14, [.int (Int32.ofNat i), .int (Int32.ofNat i)], w)) 2 10 rfl ?_
    exact mm_xif2 rfl true (mm_ge1 (a := (i : Int)) (b := (i : Int)) (mm_nat (by omega)) (mm_nat (by omega)) (by omega)) rfl gg
  | succ m ih =>
    intro i f w l13 l14 hi ho0 ho1 ha
    have hidx : Int32.ofNat F + Int32.ofNat j * 8 + Int32.ofNat i = Int32.ofNat (F + j * 8 + i) := by rw [Int32.ofNat_add, Int32.ofNat_add, Int32.ofNat_mul]; rfl
    have key : ∃ (x : Int32) (l13' l14' : Option Value), ∀ r, mm_X Z (d + 1) 95 (115, mm_lsD l1 l2 l3 (Int32.ofNat W) (Int32.ofNat H) v u mk g (Int32.ofNat F) (some (.int (Int32.ofNat j))) (some (.int (Int32.ofNat (i + 1)))) l13' l14', [], w.set 29 (.inl (.int, 64, .inl (upd f (Int32.ofNat (F + j * 8 + i)).toNatClampNeg x)))) r →
        mm_X Z (d + 1) 95 (115, mm_lsD l1 l2 l3 (Int32.ofNat W) (Int32.ofNat H) v u mk g (Int32.ofNat F) (some (.int (Int32.ofNat j))) (some (.int (Int32.ofNat i))) l13 l14, [], w) r := by
      refine ⟨mm_mx0 (mm_mn0 g (mm_dvl v u mk W H i j)), some (.int (mm_dsl v u W H i j)), some (.int (mm_dvl v u mk W H i j)), fun r gg => ?_⟩
      refine mm_xk (S' := (119, mm_lsD l1 l2 l3 (Int32.ofNat W) (Int32.ofNat H) v u mk g (Int32.ofNat F) (some (.int (Int32.ofNat j))) (some (.int (Int32.ofNat i))) l13 l14, [.int (Int32.ofNat W), .int (Int32.ofNat i)], w)) 2 10 rfl ?_
      refine mm_xif2 rfl false (mm_ge0 (a := (i : Int)) (b := (W : Int)) (mm_nat (by omega)) (mm_nat (by omega)) (by omega)) rfl ?_
      refine mm_xk (S' := (140, mm_lsD l1 l2 l3 (Int32.ofNat W) (Int32.ofNat H) v u mk g (Int32.ofNat F) (some (.int (Int32.ofNat j))) (some (.int (Int32.ofNat i))) l13 l14, [.int (Int32.ofNat W + Int32.ofNat H), .int ((u - v) * (Int32.ofNat i + Int32.ofNat j)), .int v], w)) 11 10 rfl ?_
      refine mm_xdiv rfl (mm_ofne hW1 hW hH) ?_
      refine mm_xk (S' := (164, mm_lsD l1 l2 l3 (Int32.ofNat W) (Int32.ofNat H) v u mk g (Int32.ofNat F) (some (.int (Int32.ofNat j))) (some (.int (Int32.ofNat i))) (some (.int (mm_dsl v u W H i j))) (some (.int (mm_dvl v u mk W H i j))), [.ref 0], w)) 14 30 rfl ?_
      refine mm_xget rfl ho0 rfl hf0 ?_
      refine mm_xget rfl ho1 rfl hf2 ?_
      refine mm_xk (S' := (175, mm_lsD l1 l2 l3 (Int32.ofNat W) (Int32.ofNat H) v u mk g (Int32.ofNat F) (some (.int (Int32.ofNat j))) (some (.int (Int32.ofNat i))) (some (.int (mm_dsl v u W H i j))) (some (.int (mm_dvl v u mk W H i j))), [.ref 0, .int (Int32.ofNat j), .int (Int32.ofNat F), .ref 29], w)) 3 30 rfl ?_
      refine mm_xget rfl ho0 rfl hf0 ?_
      refine mm_xget rfl ho1 rfl hf1 ?_
      refine mm_xk (S' := (197, mm_lsD l1 l2 l3 (Int32.ofNat W) (Int32.ofNat H) v u mk g (Int32.ofNat F) (some (.int (Int32.ofNat j))) (some (.int (Int32.ofNat i))) (some (.int (mm_dsl v u W H i j))) (some (.int (mm_dvl v u mk W H i j))), [.int (mm_mx0 (mm_mn0 g (mm_dvl v u mk W H i j))), .int (Int32.ofNat F + Int32.ofNat j * 8 + Int32.ofNat i), .ref 29], w)) 9 30 rfl ?_
      rw [hidx]
      refine mm_xist rfl ha (mm_bdn (by omega) (by decide)) ?_
      refine mm_xk (S' := (115, mm_lsD l1 l2 l3 (Int32.ofNat W) (Int32.ofNat H) v u mk g (Int32.ofNat F) (some (.int (Int32.ofNat j))) (some (.int (Int32.ofNat i + Int32.ofInt 1))) (some (.int (mm_dsl v u W H i j))) (some (.int (mm_dvl v u mk W H i j))), [], _)) 2 10 rfl ?_
      rw [mm_suc]
      exact gg
    obtain ⟨x, k13, k14, hkey⟩ := key
    obtain ⟨f', m13, m14, hg⟩ := ih (i + 1) _ _ k13 k14 (by omega) (mm_obj_ne ho0 (by decide)) (mm_obj_ne ho1 (by decide)) (mm_ar_eq (q' := (.int, 64, .inl (upd f (Int32.ofNat (F + j * 8 + i)).toNatClampNeg x))) ha)
    refine ⟨f', m13, m14, fun r gg => hkey r (hg r ?_)⟩
    rw [List.set_set]
    exact gg
theorem mm_lpD {l1 l2 l3 : Option Value} {v u mk g : Int32} {W H F : Nat} {fs0 fs1 : List Value} (hW1 : 1 ≤ W) (hW : W ≤ 64) (hH : H ≤ 64) (hF : F + H * 8 + W ≤ 72) (hf0 : fs0[0]? = some (.ref 1)) (hf1 : fs1[0]? = some (.int 8)) (hf2 : fs1[4]? = some (.ref 29)) :
    ∀ (m j : Nat) (f : Nat → Int32) (w : mm_W) (l12 l13 l14 : Option Value), j + m = H → mm_obj w 0 = some (0, fs0) → mm_obj w 1 = some (2, fs1) → mm_ar w 29 = some (.int, 64, .inl f) →
    ∃ f', mm_X Z (d + 1) 95 (105, mm_lsD l1 l2 l3 (Int32.ofNat W) (Int32.ofNat H) v u mk g (Int32.ofNat F) (some (.int (Int32.ofNat j))) l12 l13 l14, [], w) (.inl none, w.set 29 (.inl (.int, 64, .inl f'))) := by
  intro m
  induction m with
  | zero =>
    intro j f w l12 l13 l14 hj ho0 ho1 ha
    obtain rfl : j = H := by omega
    refine ⟨f, ?_⟩
    rw [mm_ar_self ha]
    refine mm_xk (S' := (109, mm_lsD l1 l2 l3 (Int32.ofNat W) (Int32.ofNat j) v u mk g (Int32.ofNat F) (some (.int (Int32.ofNat j))) l12 l13 l14, [.int (Int32.ofNat j), .int (Int32.ofNat j)], w)) 2 10 rfl ?_
    refine mm_xif2 rfl true (mm_ge1 (a := (j : Int)) (b := (j : Int)) (mm_nat (by omega)) (mm_nat (by omega)) (by omega)) rfl ?_
    exact mm_xfin rfl
  | succ m ih =>
    intro j f w l12 l13 l14 hj ho0 ho1 ha
    obtain ⟨f1, k13, k14, h1⟩ := mm_lpD1 (Z := Z) (d := d) (l1 := l1) (l2 := l2) (l3 := l3) (v := v) (u := u) (mk := mk) (g := g) (H := H) (F := F) (j := j) hW1 hW hH (by omega) hf0 hf1 hf2 W 0 f w l13 l14 (by omega) ho0 ho1 ha
    obtain ⟨f2, h2⟩ := ih (j + 1) f1 (w.set 29 (.inl (.int, 64, .inl f1))) (some (.int (Int32.ofNat W))) k13 k14 (by omega) (mm_obj_ne ho0 (by decide)) (mm_obj_ne ho1 (by decide)) (mm_ar_eq ha)
    refine ⟨f2, ?_⟩
    rw [List.set_set] at h2
    refine mm_xk (S' := (109, mm_lsD l1 l2 l3 (Int32.ofNat W) (Int32.ofNat H) v u mk g (Int32.ofNat F) (some (.int (Int32.ofNat j))) l12 l13 l14, [.int (Int32.ofNat H), .int (Int32.ofNat j)], w)) 2 10 rfl ?_
    refine mm_xif2 rfl false (mm_ge0 (a := (j : Int)) (b := (H : Int)) (mm_nat (by omega)) (mm_nat (by omega)) (by omega)) rfl ?_
    refine mm_xk (S' := (115, mm_lsD l1 l2 l3 (Int32.ofNat W) (Int32.ofNat H) v u mk g (Int32.ofNat F) (some (.int (Int32.ofNat j))) (some (.int (Int32.ofNat 0))) l13 l14, [], w)) 2 10 rfl ?_
    refine h1 _ ?_
    refine mm_xk (S' := (105, mm_lsD l1 l2 l3 (Int32.ofNat W) (Int32.ofNat H) v u mk g (Int32.ofNat F) (some (.int (Int32.ofNat j + Int32.ofInt 1))) (some (.int (Int32.ofNat W))) k13 k14, [], _)) 2 10 rfl ?_
    rw [mm_suc]
    exact h2
end MDR
