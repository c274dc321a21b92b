/-! the reference's measure -/
section MME
variable {Z : Nat → Option (Nat × (Nat → Int32))} {d M pc : Nat} {ls : List (Option Value)} {st : List Value} {w : mm_W} {r : mm_Rs × mm_W}
theorem mm_xput {ix len a cj k : Nat} {fs : List Value} {v : Value} (hc : (mm_code M)[pc]? = some (some (.putfield ix, len))) (ho : mm_obj w a = some (cj, fs)) (hf : mm_fld (mm_cn M) ix cj = some k) (hk : k < fs.length) (hfit : mm_fits (mm_ty0 cj k) v = true) (hfin : (mm_T cj k).2.2.2 = false) (g : mm_X Z d M (pc + 3, ls, st, w.set a (.inr (cj, fs.set k v))) r) : mm_X Z d M (pc, ls, v :: .ref a :: st, w) r := by
  refine mm_xstep (S' := (pc + 3, ls, st, w.set a (.inr (cj, fs.set k v)))) ?_ g
  unfold mm_act
  dsimp only
  rw [hc]
  simp only [mm_aPut, ho, hf]
  rw [if_pos ⟨hk, hfit, Or.inl hfin⟩]
theorem mm_obj_eq {a c c' : Nat} {fs fs' : List Value} (h : mm_obj w a = some (c, fs)) : mm_obj (w.set a (.inr (c', fs'))) a = some (c', fs') := by
  obtain ⟨h1, h2⟩ := mm_obj_at h
  exact mm_obj_of h1 (by rw [List.getElem?_set_self (List.getElem?_eq_some_iff.mp h2).1])
theorem mm_obj_self {a c : Nat} {fs : List Value} (h : mm_obj w a = some (c, fs)) : w.set a (.inr (c, fs)) = w := by
  obtain ⟨h1, h2⟩ := mm_obj_at h
  obtain ⟨h3, h4⟩ := List.getElem?_eq_some_iff.mp h2
  rw [← h4]; exact List.set_getElem_self h3
end MME
theorem mm_sh8 : ∀ k : Nat, k < 9 → ((1 : Int32) <<< (Int32.ofNat k &&& 31)).toInt = 2 ^ k := by decide
theorem mm_lpQ {Z : Nat → Option (Nat × (Nat → Int32))} {d : Nat} {l1 l2 l3 l4 l5 l6 : Option Value} {rg : Int32} (hr : rg.toInt ≤ 256) : ∀ (m k : Nat) (fs : List Value) (w : mm_W), k + m = 8 → mm_obj w 30 = some (10, fs) → fs.length = 63 → fs[25]? = some (.int (Int32.ofNat k)) → fs[24]? = some (.int rg) →
    ∃ q, ∀ r, mm_X Z d 144 (355, [some (.ref 30), l1, l2, l3, l4, l5, l6], [], w.set 30 (.inr (10, fs.set 25 (.int q)))) r → mm_X Z d 144 (329, [some (.ref 30), l1, l2, l3, l4, l5, l6], [], w) r := by
  have hend : ∀ (k : Nat) (fs : List Value) (w : mm_W) (r : mm_Rs × mm_W), k < 9 → rg.toInt ≤ 2 ^ k → mm_obj w 30 = some (10, fs) → fs[25]? = some (.int (Int32.ofNat k)) → fs[24]? = some (.int rg) → mm_X Z d 144 (355, [some (.ref 30), l1, l2, l3, l4, l5, l6], [], w) r → mm_X Z d 144 (329, [some (.ref 30), l1, l2, l3, l4, l5, l6], [], w) r := by
    intro k fs w r hk hle ho hq hg g
    refine mm_xk (S' := (331, [some (.ref 30), l1, l2, l3, l4, l5, l6], [.ref 30, .int 1], w)) 2 10 rfl ?_
    refine mm_xget rfl ho rfl hq ?_
    refine mm_xk (S' := (336, [some (.ref 30), l1, l2, l3, l4, l5, l6], [.ref 30, .int ((1 : Int32) <<< (Int32.ofNat k &&& 31))], w)) 2 10 rfl ?_
    refine mm_xget rfl ho rfl hg ?_
    exact mm_xif2 rfl true (mm_ge1 (a := 2 ^ k) (b := rg.toInt) (mm_sh8 k hk) rfl hle) rfl g
  have hself : ∀ (fs : List Value) (w : mm_W) (v : Value), mm_obj w 30 = some (10, fs) → fs[25]? = some v → w.set 30 (.inr (10, fs.set 25 v)) = w := by
    intro fs w v ho hv
    obtain ⟨h3, h4⟩ := List.getElem?_eq_some_iff.mp hv
    rw [← h4, List.set_getElem_self h3]
    exact mm_obj_self ho
  intro m
  induction m with
  | zero =>
    intro k fs w hk ho hl hq hg
    obtain rfl : k = 8 := by omega
    refine ⟨Int32.ofNat 8, fun r g => ?_⟩
    rw [hself fs w _ ho hq] at g
    exact hend 8 fs w r (by omega) hr ho hq hg g
  | succ m ih =>
    intro k fs w hk ho hl hq hg
    by_cases hle : rg.toInt ≤ 2 ^ k
    · refine ⟨Int32.ofNat k, fun r g => ?_⟩
      rw [hself fs w _ ho hq] at g
      exact hend k fs w r (by omega) hle ho hq hg g
    · obtain ⟨q, hgq⟩ := ih (k + 1) (fs.set 25 (.int (Int32.ofNat (k + 1)))) (w.set 30 (.inr (10, fs.set 25 (.int (Int32.ofNat (k + 1)))))) (by omega) (mm_obj_eq ho) (by rw [List.length_set]; exact hl) (by rw [List.getElem?_set_self (by omega)]) (by rw [List.getElem?_set_ne (by decide)]; exact hg)
      refine ⟨q, fun r g => ?_⟩
      have g2 := hgq r (by rw [List.set_set, List.set_set]; exact g)
      refine mm_xk (S' := (331, [some (.ref 30), l1, l2, l3, l4, l5, l6], [.ref 30, .int 1], w)) 2 10 rfl ?_
      refine mm_xget rfl ho rfl hq ?_
      refine mm_xk (S' := (336, [some (.ref 30), l1, l2, l3, l4, l5, l6], [.ref 30, .int ((1 : Int32) <<< (Int32.ofNat k &&& 31))], w)) 2 10 rfl ?_
      refine mm_xget rfl ho rfl hg ?_
      refine mm_xif2 rfl false (mm_ge0 (a := 2 ^ k) (b := rg.toInt) (mm_sh8 k (by omega)) rfl (by omega)) rfl ?_
      refine mm_xk (S' := (344, [some (.ref 30), l1, l2, l3, l4, l5, l6], [.ref 30, .ref 30], w)) 2 10 rfl ?_
      refine mm_xget rfl ho rfl hq ?_
      refine mm_xk (S' := (349, [some (.ref 30), l1, l2, l3, l4, l5, l6], [.int (Int32.ofNat k + Int32.ofInt 1), .ref 30], w)) 2 10 rfl ?_
      rw [mm_suc]
      refine mm_xput rfl ho rfl (by omega) rfl rfl ?_
      refine mm_xk (S' := (329, [some (.ref 30), l1, l2, l3, l4, l5, l6], [], _)) 1 10 rfl ?_
      exact g2
