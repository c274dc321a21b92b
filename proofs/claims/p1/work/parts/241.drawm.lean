section MDM
variable {Z : Nat → Option (Nat × (Nat → Int32))} {d : Nat}
theorem mm_great {w : mm_W} {fs : List Value} {dep : Int32} (ho : mm_obj w 30 = some (10, fs)) (hf : fs[4]? = some (.int dep)) : mm_X Z d 138 (0, [some (.ref 30)], [], w) (.inl (some (.int ((1 : Int32) <<< (dep &&& 31) - 1))), w) := by
  refine mm_xk (S' := (2, [some (.ref 30)], [.ref 30, .int 1], w)) 2 10 rfl ?_
  refine mm_xget rfl ho rfl hf ?_
  exact mm_xk (S' := (8, [some (.ref 30)], [.int ((1 : Int32) <<< (dep &&& 31) - 1)], w)) 3 10 rfl (mm_xfin rfl)
def mm_lsM (p x y wide high v u m : Int32) (l9 l10 l11 l12 l13 : Option Value) : List (Option Value) := [some (.ref 30), some (.int p), some (.int x), some (.int y), some (.int wide), some (.int high), some (.int v), some (.int u), some (.int m), l9, l10, l11, l12, l13]
abbrev mm_dn (W i j : Nat) : Int32 := (Int32.ofNat i + Int32.ofNat W * Int32.ofNat j) * 40503 + 12345
theorem mm_lpM1 {v u mk dep : Int32} {X Y W H j : Nat} {l9 : Option Value} {fs : List Value} (hW1 : 1 ≤ W) (hW : W ≤ 64) (hH : H ≤ 64) (hY : Y + j < 64) (hX : X + W ≤ 64) (hf5 : fs[5]? = some (.ref 31)) (hf4 : fs[4]? = some (.int dep)) :
    ∀ (m i : Nat) (f : Nat → Int32) (w : mm_W) (l12 l13 : Option Value), i + m = W → mm_obj w 30 = some (10, fs) → mm_ar w 31 = some (.int, 12288, .inl f) →
    ∃ f' l12' l13', ∀ r, mm_X Z (d + 1) 137 (251, mm_lsM 0 (Int32.ofNat X) (Int32.ofNat Y) (Int32.ofNat W) (Int32.ofNat H) v u mk l9 (some (.int (Int32.ofNat j))) (some (.int (Int32.ofNat W))) l12' l13', [], w.set 31 (.inl (.int, 12288, .inl f'))) r →
      mm_X Z (d + 1) 137 (151, mm_lsM 0 (Int32.ofNat X) (Int32.ofNat Y) (Int32.ofNat W) (Int32.ofNat H) v u mk l9 (some (.int (Int32.ofNat j))) (some (.int (Int32.ofNat i))) l12 l13, [], w) r := by
  intro m
  induction m with
  | zero =>
    intro i f w l12 l13 hi ho ha
    obtain rfl : i = W := by omega
    refine ⟨f, l12, l13, fun r gg => ?_⟩
    rw [mm_ar_self ha] at gg
    refine mm_xk (S' := (155, mm_lsM 0 (Int32.ofNat X) (Int32.ofNat Y) (Int32.ofNat i) (Int32.ofNat H) v u mk l9 (some (.int (Int32.ofNat j))) (some (.int (Int32.ofNat i))) l12 l13, [.int (Int32.ofNat i), .int (Int32.ofNat i)], w)) 2 10 rfl ?_
    exact mm_xif2 rfl true (mm_ge1 (a := (i : Int)) (b := (i : Int)) (mm_nat (by omega)) (mm_nat (by omega)) (by omega)) rfl gg
  | succ m ih =>
    intro i f w l12 l13 hi ho ha
    have hidx : (4096 : Int32) * 0 + 64 * (Int32.ofNat Y + Int32.ofNat j) + Int32.ofNat X + Int32.ofNat i = Int32.ofNat (64 * (Y + j) + X + i) := by
      rw [Int32.ofNat_add, Int32.ofNat_add, Int32.ofNat_mul, Int32.ofNat_add]
      show (0 : Int32) + _ + _ + _ = _
      rw [Int32.zero_add]
      rfl
    have key : ∃ (x : Int32) (l12' l13' : Option Value), ∀ r, mm_X Z (d + 1) 137 (151, mm_lsM 0 (Int32.ofNat X) (Int32.ofNat Y) (Int32.ofNat W) (Int32.ofNat H) v u mk l9 (some (.int (Int32.ofNat j))) (some (.int (Int32.ofNat (i + 1)))) l12' l13', [], w.set 31 (.inl (.int, 12288, .inl (upd f (Int32.ofNat (64 * (Y + j) + X + i)).toNatClampNeg x)))) r →
        mm_X Z (d + 1) 137 (151, mm_lsM 0 (Int32.ofNat X) (Int32.ofNat Y) (Int32.ofNat W) (Int32.ofNat H) v u mk l9 (some (.int (Int32.ofNat j))) (some (.int (Int32.ofNat i))) l12 l13, [], w) r := by
      refine ⟨if (if (1 : Int32) <<< (dep &&& 31) - 1 < mm_dvl v u mk W H i j then (1 : Int32) <<< (dep &&& 31) - 1 else mm_dvl v u mk W H i j) < 0 then 0 else (if (1 : Int32) <<< (dep &&& 31) - 1 < mm_dvl v u mk W H i j then (1 : Int32) <<< (dep &&& 31) - 1 else mm_dvl v u mk W H i j), some (.int (mm_dn W i j)), some (.int (mm_dvl v u mk W H i j)), fun r gg => ?_⟩
      refine mm_xk (S' := (155, mm_lsM 0 (Int32.ofNat X) (Int32.ofNat Y) (Int32.ofNat W) (Int32.ofNat H) v u mk l9 (some (.int (Int32.ofNat j))) (some (.int (Int32.ofNat i))) l12 l13, [.int (Int32.ofNat W), .int (Int32.ofNat i)], w)) 2 10 rfl ?_
      refine mm_xif2 rfl false (mm_ge0 (a := (i : Int)) (b := (W : Int)) (mm_nat (by omega)) (mm_nat (by omega)) (by omega)) rfl ?_
      refine mm_xk (S' := (193, mm_lsM 0 (Int32.ofNat X) (Int32.ofNat Y) (Int32.ofNat W) (Int32.ofNat H) v u mk l9 (some (.int (Int32.ofNat j))) (some (.int (Int32.ofNat i))) (some (.int (mm_dn W i j))) l13, [.int (Int32.ofNat W + Int32.ofNat H), .int ((u - v) * (Int32.ofNat i + Int32.ofNat j)), .int v], w)) 21 10 rfl ?_
      refine mm_xdiv rfl (mm_ofne hW1 hW hH) ?_
      refine mm_xk (S' := (210, mm_lsM 0 (Int32.ofNat X) (Int32.ofNat Y) (Int32.ofNat W) (Int32.ofNat H) v u mk l9 (some (.int (Int32.ofNat j))) (some (.int (Int32.ofNat i))) (some (.int (mm_dn W i j))) (some (.int (mm_dvl v u mk W H i j))), [.ref 30], w)) 11 30 rfl ?_
      refine mm_xget rfl ho rfl hf5 ?_
      refine mm_xk (S' := (233, mm_lsM 0 (Int32.ofNat X) (Int32.ofNat Y) (Int32.ofNat W) (Int32.ofNat H) v u mk l9 (some (.int (Int32.ofNat j))) (some (.int (Int32.ofNat i))) (some (.int (mm_dn W i j))) (some (.int (mm_dvl v u mk W H i j))), [.ref 30, .int 0, .int ((4096 : Int32) * 0 + 64 * (Int32.ofNat Y + Int32.ofNat j) + Int32.ofNat X + Int32.ofNat i), .ref 31], w)) 15 30 rfl ?_
      rw [hidx]
      refine mm_xvirt (k := 4) (n := 0) (T := 138) (cj := 10) rfl rfl (Or.inl rfl) rfl ho rfl rfl (mm_great ho hf4) ?_
      refine mm_xk (S' := (238, mm_lsM 0 (Int32.ofNat X) (Int32.ofNat Y) (Int32.ofNat W) (Int32.ofNat H) v u mk l9 (some (.int (Int32.ofNat j))) (some (.int (Int32.ofNat i))) (some (.int (mm_dn W i j))) (some (.int (mm_dvl v u mk W H i j))), [.int (mm_dvl v u mk W H i j), .int ((1 : Int32) <<< (dep &&& 31) - 1), .int 0, .int (Int32.ofNat (64 * (Y + j) + X + i)), .ref 31], w)) 1 30 rfl ?_
      refine mm_xcall (T := 139) rfl (mm_less ((1 : Int32) <<< (dep &&& 31) - 1) (mm_dvl v u mk W H i j)) ?_
      refine mm_xcall (T := 140) rfl (mm_more 0 (if (1 : Int32) <<< (dep &&& 31) - 1 < mm_dvl v u mk W H i j then (1 : Int32) <<< (dep &&& 31) - 1 else mm_dvl v u mk W H i j)) ?_
      refine mm_xist rfl ha (mm_bdn (by omega) (by decide)) ?_
      refine mm_xk (S' := (151, mm_lsM 0 (Int32.ofNat X) (Int32.ofNat Y) (Int32.ofNat W) (Int32.ofNat H) v u mk l9 (some (.int (Int32.ofNat j))) (some (.int (Int32.ofNat i + Int32.ofInt 1))) (some (.int (mm_dn W i j))) (some (.int (mm_dvl v u mk W H i j))), [], _)) 2 10 rfl ?_
      rw [mm_suc]
      exact gg
    obtain ⟨x, k12, k13, hkey⟩ := key
    obtain ⟨f', m12, m13, hg⟩ := ih (i + 1) _ _ k12 k13 (by omega) (mm_obj_ne ho (by decide)) (mm_ar_eq (q' := (.int, 12288, .inl (upd f (Int32.ofNat (64 * (Y + j) + X + i)).toNatClampNeg x))) ha)
    refine ⟨f', m12, m13, fun r gg => hkey r (hg r ?_)⟩
    rw [List.set_set]
    exact gg
theorem mm_lpM {v u mk dep : Int32} {X Y W H : Nat} {l9 : Option Value} {fs : List Value} (hW1 : 1 ≤ W) (hW : W ≤ 64) (hH : H ≤ 64) (hY : Y + H ≤ 64) (hX : X + W ≤ 64) (hf5 : fs[5]? = some (.ref 31)) (hf4 : fs[4]? = some (.int dep)) :
    ∀ (m j : Nat) (f : Nat → Int32) (w : mm_W) (l11 l12 l13 : Option Value), j + m = H → mm_obj w 30 = some (10, fs) → mm_ar w 31 = some (.int, 12288, .inl f) →
    ∃ f', mm_X Z (d + 1) 137 (141, mm_lsM 0 (Int32.ofNat X) (Int32.ofNat Y) (Int32.ofNat W) (Int32.ofNat H) v u mk l9 (some (.int (Int32.ofNat j))) l11 l12 l13, [], w) (.inl none, w.set 31 (.inl (.int, 12288, .inl f'))) := by
  intro m
  induction m with
  | zero =>
    intro j f w l11 l12 l13 hj ho ha
    obtain rfl : j = H := by omega
    refine ⟨f, ?_⟩
    rw [mm_ar_self ha]
    refine mm_xk (S' := (145, mm_lsM 0 (Int32.ofNat X) (Int32.ofNat Y) (Int32.ofNat W) (Int32.ofNat j) v u mk l9 (some (.int (Int32.ofNat j))) l11 l12 l13, [.int (Int32.ofNat j), .int (Int32.ofNat j)], w)) 2 10 rfl ?_
    refine mm_xif2 rfl true (mm_ge1 (a := (j : Int)) (b := (j : Int)) (mm_nat (by omega)) (mm_nat (by omega)) (by omega)) rfl ?_
    exact mm_xfin rfl
  | succ m ih =>
    intro j f w l11 l12 l13 hj ho ha
    obtain ⟨f1, k12, k13, h1⟩ := mm_lpM1 (Z := Z) (d := d) (v := v) (u := u) (mk := mk) (X := X) (Y := Y) (H := H) (j := j) (l9 := l9) hW1 hW hH (by omega) hX hf5 hf4 W 0 f w l12 l13 (by omega) ho ha
    obtain ⟨f2, h2⟩ := ih (j + 1) f1 (w.set 31 (.inl (.int, 12288, .inl f1))) (some (.int (Int32.ofNat W))) k12 k13 (by omega) (mm_obj_ne ho (by decide)) (mm_ar_eq ha)
    refine ⟨f2, ?_⟩
    rw [List.set_set] at h2
    refine mm_xk (S' := (145, mm_lsM 0 (Int32.ofNat X) (Int32.ofNat Y) (Int32.ofNat W) (Int32.ofNat H) v u mk l9 (some (.int (Int32.ofNat j))) l11 l12 l13, [.int (Int32.ofNat H), .int (Int32.ofNat j)], w)) 2 10 rfl ?_
    refine mm_xif2 rfl false (mm_ge0 (a := (j : Int)) (b := (H : Int)) (mm_nat (by omega)) (mm_nat (by omega)) (by omega)) rfl ?_
    refine mm_xk (S' := (151, mm_lsM 0 (Int32.ofNat X) (Int32.ofNat Y) (Int32.ofNat W) (Int32.ofNat H) v u mk l9 (some (.int (Int32.ofNat j))) (some (.int (Int32.ofNat 0))) l12 l13, [], w)) 2 10 rfl ?_
    refine h1 _ ?_
    refine mm_xk (S' := (141, mm_lsM 0 (Int32.ofNat X) (Int32.ofNat Y) (Int32.ofNat W) (Int32.ofNat H) v u mk l9 (some (.int (Int32.ofNat j + Int32.ofInt 1))) (some (.int (Int32.ofNat W))) k12 k13, [], _)) 2 10 rfl ?_
    rw [mm_suc]
    exact h2
end MDM
