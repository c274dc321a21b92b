/-! a step of the machine over whole numbers is a step of the small machine: instructions that touch no heap -/
def mi_cv (v : mi_V) : Value := match v with
  | .inl x => .int (Int32.ofInt x)
  | .inr (.inl a) => .ref a
  | .inr (.inr l) => .long (Int64.ofInt l)
def mi_cl (ls : List (Option mi_V)) : List (Option Value) := ls.map (fun o => o.map mi_cv)
def mi_cs (st : List mi_V) : List Value := st.map mi_cv
def mi_cf (q : mi_F) : mm_F := (q.1, mi_cl q.2.1, mi_cs q.2.2)
theorem mi_ti {x : Int} (h : -2147483648 ≤ x ∧ x ≤ 2147483647) : (Int32.ofInt x).toInt = x := Int32.toInt_ofInt_of_le (by omega) (by omega)
theorem mi_cl_get {ls : List (Option mi_V)} {i : Nat} {v : mi_V} (h : ls[i]? = some (some v)) : (mi_cl ls)[i]? = some (some (mi_cv v)) := by
  simp [mi_cl, h]
theorem mi_cl_set {ls : List (Option mi_V)} {i : Nat} {v : mi_V} : mi_cl (ls.set i (some v)) = (mi_cl ls).set i (some (mi_cv v)) := by
  simp [mi_cl, List.map_set]
theorem mi_cl_len {ls : List (Option mi_V)} : (mi_cl ls).length = ls.length := by simp [mi_cl]
theorem mi_cmp_ok {c : Jvm.ClassFile.Cond} {x y : Int} (hx : -2147483648 ≤ x ∧ x ≤ 2147483647) (hy : -2147483648 ≤ y ∧ y ≤ 2147483647) : mm_cmp c (Int32.ofInt x) (Int32.ofInt y) = mi_cmp c x y := by
  have ex := mi_ti hx
  have ey := mi_ti hy
  have h1 : (Int32.ofInt x = Int32.ofInt y) ↔ x = y := by
    rw [← Int32.toInt_inj, ex, ey]
  have h2 : (Int32.ofInt x < Int32.ofInt y) ↔ x < y := by
    rw [Int32.lt_iff_toInt_lt, ex, ey]
  have h3 : (Int32.ofInt y < Int32.ofInt x) ↔ y < x := by
    rw [Int32.lt_iff_toInt_lt, ex, ey]
  have h4 : (Int32.ofInt x ≤ Int32.ofInt y) ↔ x ≤ y := by
    rw [Int32.le_iff_toInt_le, ex, ey]
  have h5 : (Int32.ofInt y ≤ Int32.ofInt x) ↔ y ≤ x := by
    rw [Int32.le_iff_toInt_le, ex, ey]
  cases c <;> simp only [mm_cmp, mi_cmp, h1, h2, h3, h4, h5]
theorem mi_cat_ok (v : mi_V) : (mi_cv v).category = mi_cat v := by
  rcases v with x | a | l <;> rfl
theorem mi_c1_ok {v : mi_V} (h : mi_c1 v = true) : (mi_cv v).category = 1 := by
  rcases v with x | a | l
  · rfl
  · rfl
  · cases h
section MIP
variable {pc pc' : Nat} {ls : List (Option mi_V)} {st : List mi_V} {q : mi_F}
theorem mi_jump_ok {off : Int} (h : mi_jump pc off ls st = some q) : mm_jump pc off (mi_cl ls) (mi_cs st) = some (mi_cf q) := by
  unfold mi_jump at h
  unfold mm_jump
  split at h
  · rename_i hp
    cases h
    rw [if_pos hp]
    rfl
  · cases h
theorem mi_iload_ok {i : Nat} (h : mi_iload i pc' ls st = some q) : mm_iload i pc' (mi_cl ls) (mi_cs st) = some (mi_cf q) := by
  unfold mi_iload at h
  split at h
  · rename_i x hx
    cases h
    unfold mm_iload
    rw [mi_cl_get hx]
    rfl
  · cases h
theorem mi_aload_ok {i : Nat} (h : mi_aload i pc' ls st = some q) : mm_aload i pc' (mi_cl ls) (mi_cs st) = some (mi_cf q) := by
  unfold mi_aload at h
  split at h
  · rename_i x hx
    cases h
    unfold mm_aload
    rw [mi_cl_get hx]
    rfl
  · cases h
theorem mi_istore_ok {i : Nat} (h : mi_istore i pc' ls st = some q) : mm_istore i pc' (mi_cl ls) (mi_cs st) = some (mi_cf q) := by
  unfold mi_istore at h
  split at h
  · rename_i x r
    split at h
    · rename_i hi
      cases h
      show (if i < (mi_cl ls).length then some (pc', (mi_cl ls).set i (some (.int (Int32.ofInt x))), mi_cs r) else none) = _
      rw [if_pos (by rw [mi_cl_len]; exact hi)]
      show _ = some (pc', mi_cl (ls.set i (some (.inl x))), mi_cs r)
      rw [mi_cl_set]
      rfl
    · cases h
  · cases h
theorem mi_astore_ok {i : Nat} (h : mi_astore i pc' ls st = some q) : mm_astore i pc' (mi_cl ls) (mi_cs st) = some (mi_cf q) := by
  unfold mi_astore at h
  split at h
  · rename_i x r
    split at h
    · rename_i hi
      cases h
      show (if i < (mi_cl ls).length then some (pc', (mi_cl ls).set i (some (.ref x)), mi_cs r) else none) = _
      rw [if_pos (by rw [mi_cl_len]; exact hi)]
      show _ = some (pc', mi_cl (ls.set i (some (.inr (.inl x)))), mi_cs r)
      rw [mi_cl_set]
      rfl
    · cases h
  · cases h
theorem mi_iinc_ok {i : Nat} {n : Int} (h : mi_iinc i pc' n ls st = some q) : mm_iinc i pc' n (mi_cl ls) (mi_cs st) = some (mi_cf q) := by
  unfold mi_iinc at h
  split at h
  · rename_i x hx
    cases h
    unfold mm_iinc
    rw [mi_cl_get hx]
    show some (pc', (mi_cl ls).set i (some (.int (Int32.ofInt x + Int32.ofInt n))), mi_cs st) = some (pc', mi_cl (ls.set i (some (.inl (x + n)))), mi_cs st)
    rw [mi_cl_set]
    show _ = some (pc', (mi_cl ls).set i (some (.int (Int32.ofInt (x + n)))), mi_cs st)
    rw [Int32.ofInt_add]
  · cases h
theorem mi_bin_ok {f : Int → Int → Int} {g : Int32 → Int32 → Int32} (hf : ∀ x y, Int32.ofInt (f x y) = g (Int32.ofInt x) (Int32.ofInt y)) (h : mi_bin f pc' ls st = some q) : mm_bin g pc' (mi_cl ls) (mi_cs st) = some (mi_cf q) := by
  unfold mi_bin at h
  split at h
  · rename_i y x r
    cases h
    show some (pc', mi_cl ls, .int (g (Int32.ofInt x) (Int32.ofInt y)) :: mi_cs r) = some (pc', mi_cl ls, .int (Int32.ofInt (f x y)) :: mi_cs r)
    rw [hf]
  · cases h
theorem mi_div_ok {f : Int → Int → Int} {g : Int32 → Int32 → Int32} (hf : ∀ x y, (-2147483648 ≤ x ∧ x ≤ 2147483647) → 0 < y → y ≤ 2147483647 → Int32.ofInt (f x y) = g (Int32.ofInt x) (Int32.ofInt y)) (h : mi_div f pc' ls st = some q) : mm_div g pc' (mi_cl ls) (mi_cs st) = some (mi_cf q) := by
  unfold mi_div at h
  split at h
  · rename_i y x r
    split at h
    · rename_i hc
      cases h
      have hy : ¬ Int32.ofInt y = 0 := by
        intro e
        have e2 := congrArg Int32.toInt e
        rw [mi_ti (by omega)] at e2
        have : (0 : Int32).toInt = 0 := rfl
        omega
      show (if Int32.ofInt y = 0 then none else some (pc', mi_cl ls, .int (g (Int32.ofInt x) (Int32.ofInt y)) :: mi_cs r)) = some (pc', mi_cl ls, .int (Int32.ofInt (f x y)) :: mi_cs r)
      rw [if_neg hy, hf x y hc.1 hc.2.1 hc.2.2]
    · cases h
  · cases h
theorem mi_un_ok {f : Int → Int} {g : Int32 → Int32} (hf : ∀ x, Int32.ofInt (f x) = g (Int32.ofInt x)) (h : mi_un f pc' ls st = some q) : mm_un g pc' (mi_cl ls) (mi_cs st) = some (mi_cf q) := by
  unfold mi_un at h
  split at h
  · rename_i x r
    cases h
    show some (pc', mi_cl ls, .int (g (Int32.ofInt x)) :: mi_cs r) = some (pc', mi_cl ls, .int (Int32.ofInt (f x)) :: mi_cs r)
    rw [hf]
  · cases h
theorem mi_i2l_ok (h : mi_i2l pc' ls st = some q) : mm_i2l pc' (mi_cl ls) (mi_cs st) = some (mi_cf q) := by
  unfold mi_i2l at h
  split at h
  · rename_i x r
    split at h
    · rename_i hx
      cases h
      show some (pc', mi_cl ls, .long (Int32.ofInt x).toInt64 :: mi_cs r) = some (pc', mi_cl ls, .long (Int64.ofInt x) :: mi_cs r)
      have e : (Int32.ofInt x).toInt64 = Int64.ofInt x := by
        rw [← Int64.ofInt_toInt (Int32.ofInt x).toInt64, Int32.toInt_toInt64, mi_ti hx]
      rw [e]
    · cases h
  · cases h
theorem mi_lsh_ok (h : mi_lsh pc' ls st = some q) : mm_lshl pc' (mi_cl ls) (mi_cs st) = some (mi_cf q) := by
  unfold mi_lsh at h
  split at h
  · rename_i y x r
    cases h
    show some (pc', mi_cl ls, .long (Int64.ofInt x <<< ((Int32.ofInt y).toInt64 &&& 63)) :: mi_cs r) = some (pc', mi_cl ls, .long (Int64.ofInt (mi_lshl x y)) :: mi_cs r)
    unfold mi_lshl
    rw [Int64.ofInt_toInt]
  · cases h
theorem mi_lcm_ok (h : mi_lcm pc' ls st = some q) : mm_lcmp pc' (mi_cl ls) (mi_cs st) = some (mi_cf q) := by
  unfold mi_lcm at h
  split at h
  · rename_i y x r
    cases h
    show some (pc', mi_cl ls, .int (lg_cmp (Int64.ofInt x) (Int64.ofInt y)) :: mi_cs r) = some (pc', mi_cl ls, .int (Int32.ofInt (mi_lcmp x y)) :: mi_cs r)
    unfold mi_lcmp
    rw [Int32.ofInt_toInt]
  · cases h
theorem mi_dup_ok (h : mi_dup pc' ls st = some q) : mm_dup pc' (mi_cl ls) (mi_cs st) = some (mi_cf q) := by
  unfold mi_dup at h
  split at h
  · rename_i v r
    cases hv : mi_c1 v with
    | false => rw [hv] at h; cases h
    | true =>
      rw [hv] at h
      cases h
      show (if (mi_cv v).category = 1 then some (pc', mi_cl ls, mi_cv v :: mi_cv v :: mi_cs r) else none) = _
      rw [if_pos (mi_c1_ok hv)]
      rfl
  · cases h
theorem mi_dupx1_ok (h : mi_dupx1 pc' ls st = some q) : mm_dupx1 pc' (mi_cl ls) (mi_cs st) = some (mi_cf q) := by
  unfold mi_dupx1 at h
  split at h
  · rename_i v u r
    cases hv : (mi_c1 v && mi_c1 u) with
    | false => rw [hv] at h; cases h
    | true =>
      rw [hv] at h
      cases h
      rw [Bool.and_eq_true] at hv
      show (if (mi_cv v).category = 1 ∧ (mi_cv u).category = 1 then some (pc', mi_cl ls, mi_cv v :: mi_cv u :: mi_cv v :: mi_cs r) else none) = _
      rw [if_pos ⟨mi_c1_ok hv.1, mi_c1_ok hv.2⟩]
      rfl
  · cases h
theorem mi_dupx2_ok (h : mi_dupx2 pc' ls st = some q) : mm_dupx2 pc' (mi_cl ls) (mi_cs st) = some (mi_cf q) := by
  unfold mi_dupx2 at h
  split at h
  · rename_i v u x r
    cases hv : (mi_c1 v && (mi_c1 u && mi_c1 x)) with
    | false => rw [hv] at h; cases h
    | true =>
      rw [hv] at h
      cases h
      rw [Bool.and_eq_true, Bool.and_eq_true] at hv
      show (if (mi_cv v).category = 1 ∧ (mi_cv u).category = 1 ∧ (mi_cv x).category = 1 then some (pc', mi_cl ls, mi_cv v :: mi_cv u :: mi_cv x :: mi_cv v :: mi_cs r) else none) = _
      rw [if_pos ⟨mi_c1_ok hv.1, mi_c1_ok hv.2.1, mi_c1_ok hv.2.2⟩]
      rfl
  · cases h
theorem mi_dup2_ok (h : mi_dup2 pc' ls st = some q) : mm_dup2 pc' (mi_cl ls) (mi_cs st) = some (mi_cf q) := by
  unfold mi_dup2 at h
  split at h
  · rename_i v u r
    cases hv : (mi_c1 v && mi_c1 u) with
    | false => rw [hv] at h; cases h
    | true =>
      rw [hv] at h
      cases h
      rw [Bool.and_eq_true] at hv
      show (if (mi_cv v).category = 1 ∧ (mi_cv u).category = 1 then some (pc', mi_cl ls, mi_cv v :: mi_cv u :: mi_cv v :: mi_cv u :: mi_cs r) else none) = _
      rw [if_pos ⟨mi_c1_ok hv.1, mi_c1_ok hv.2⟩]
      rfl
  · cases h
theorem mi_pop_ok (h : mi_pop pc' ls st = some q) : mm_pop pc' (mi_cl ls) (mi_cs st) = some (mi_cf q) := by
  unfold mi_pop at h
  split at h
  · rename_i v r
    cases hv : mi_c1 v with
    | false => rw [hv] at h; cases h
    | true =>
      rw [hv] at h
      cases h
      show (if (mi_cv v).category = 1 then some (pc', mi_cl ls, mi_cs r) else none) = _
      rw [if_pos (mi_c1_ok hv)]
      rfl
  · cases h
theorem mi_br_ok {b : Bool} {off : Int} (h : mi_br b pc off ls st = some q) : mm_br b pc off (mi_cl ls) (mi_cs st) = some (mi_cf q) := by
  unfold mi_br at h
  rcases hj : mi_jump pc off ls st with _ | q1
  · rw [hj] at h; cases h
  · rw [hj] at h
    unfold mm_br
    rw [mi_jump_ok hj]
    dsimp only at h ⊢
    split at h
    · rename_i hb; cases h; rw [if_pos hb]
    · rename_i hb; cases h; rw [if_neg hb]; rfl
theorem mi_if1_ok {c : Jvm.ClassFile.Cond} {off : Int} (h : mi_if1 c pc off ls st = some q) : mm_if1 c pc off (mi_cl ls) (mi_cs st) = some (mi_cf q) := by
  unfold mi_if1 at h
  split at h
  · rename_i x r
    split at h
    · rename_i hx
      show mm_br (mm_cmp c (Int32.ofInt x) 0) pc off (mi_cl ls) (mi_cs r) = _
      have e : (0 : Int32) = Int32.ofInt 0 := rfl
      rw [e, mi_cmp_ok hx (by omega)]
      exact mi_br_ok h
    · cases h
  · cases h
theorem mi_if2_ok {c : Jvm.ClassFile.Cond} {off : Int} (h : mi_if2 c pc off ls st = some q) : mm_if2 c pc off (mi_cl ls) (mi_cs st) = some (mi_cf q) := by
  unfold mi_if2 at h
  split at h
  · rename_i y x r
    split at h
    · rename_i hx
      show mm_br (mm_cmp c (Int32.ofInt x) (Int32.ofInt y)) pc off (mi_cl ls) (mi_cs r) = _
      rw [mi_cmp_ok hx.1 hx.2]
      exact mi_br_ok h
    · cases h
  · cases h
theorem mi_tsw_ok {dflt lo hi : Int} {offs : Array Int} (h : mi_tsw dflt lo hi offs pc ls st = some q) : mm_tsw dflt lo hi offs pc (mi_cl ls) (mi_cs st) = some (mi_cf q) := by
  unfold mi_tsw at h
  split at h
  · rename_i x r
    split at h
    · rename_i hx
      show (if (Int32.ofInt x).toInt < lo ∨ hi < (Int32.ofInt x).toInt then mm_jump pc dflt (mi_cl ls) (mi_cs r) else match offs[((Int32.ofInt x).toInt - lo).toNat]? with
        | some off => mm_jump pc off (mi_cl ls) (mi_cs r)
        | none => none) = _
      rw [mi_ti hx]
      split at h
      · rename_i hc
        rw [if_pos hc]
        exact mi_jump_ok h
      · rename_i hc
        rw [if_neg hc]
        split at h
        · rename_i off ho
          rw [ho]
          exact mi_jump_ok h
        · cases h
    · cases h
  · cases h
theorem mi_lsw_ok {dflt : Int} {ps : Array (Int × Int)} (h : mi_lsw dflt ps pc ls st = some q) : mm_lsw dflt ps pc (mi_cl ls) (mi_cs st) = some (mi_cf q) := by
  unfold mi_lsw at h
  split at h
  · rename_i x r
    split at h
    · rename_i hx
      split at h
      · rename_i hc
        show (if (ps.toList.zip (ps.toList.drop 1)).all (fun (a, next) => a.1 < next.1) = true then mm_jump pc (Op.lookupswitch.offset ps.toList dflt (Int32.ofInt x).toInt) (mi_cl ls) (mi_cs r) else none) = _
        rw [mi_ti hx, if_pos hc]
        exact mi_jump_ok h
      · cases h
    · cases h
  · cases h
theorem mi_b8_ok {n : Int} (h : mi_b8 n = true) : (Int8.ofInt n).toInt32 = Int32.ofInt n := by
  have hb : -128 ≤ n ∧ n ≤ 127 := by
    cases n with
    | ofNat k => have := Nat.le_of_ble_eq_true h; show -128 ≤ (k : Int) ∧ (k : Int) ≤ 127; omega
    | negSucc k => have := Nat.le_of_ble_eq_true h; omega
  exact Int8.toInt32_ofInt hb.1 hb.2
theorem mi_b16_ok {n : Int} (h : mi_b16 n = true) : (Int16.ofInt n).toInt32 = Int32.ofInt n := by
  have hb : -32768 ≤ n ∧ n ≤ 32767 := by
    cases n with
    | ofNat k => have := Nat.le_of_ble_eq_true h; show -32768 ≤ (k : Int) ∧ (k : Int) ≤ 32767; omega
    | negSucc k => have := Nat.le_of_ble_eq_true h; omega
  exact Int16.toInt32_ofInt hb.1 hb.2
theorem mi_tdiv_ok {x y : Int} (hx : -2147483648 ≤ x ∧ x ≤ 2147483647) (h0 : 0 < y) (h1 : y ≤ 2147483647) : Int32.ofInt (x.tdiv y) = Int32.ofInt x / Int32.ofInt y := by
  refine Int32.ofInt_tdiv ?_ ?_ ?_ ?_
  · show (-2147483648 : Int) ≤ x; omega
  · show x ≤ (2147483647 : Int); omega
  · show (-2147483648 : Int) ≤ y; omega
  · show y ≤ (2147483647 : Int); omega
set_option maxHeartbeats 4000000 in
theorem mi_pure_ok {i : Instr} (h : mi_pure i pc ls st = some q) : mm_pure i pc (mi_cl ls) (mi_cs st) = some (mi_cf q) := by
  unfold mi_pure at h
  unfold mm_pure
  split at h
  · cases h; rfl
  · rename_i n
    cases hb : mi_b8 n with
    | false => rw [hb] at h; cases h
    | true =>
      rw [hb] at h
      cases h
      dsimp only
      rw [mi_b8_ok hb]
      rfl
  · rename_i n
    cases hb : mi_b16 n with
    | false => rw [hb] at h; cases h
    | true =>
      rw [hb] at h
      cases h
      dsimp only
      rw [mi_b16_ok hb]
      rfl
  · exact mi_iload_ok h
  · exact mi_iload_ok h
  · exact mi_aload_ok h
  · exact mi_aload_ok h
  · exact mi_istore_ok h
  · exact mi_istore_ok h
  · exact mi_astore_ok h
  · exact mi_astore_ok h
  · exact mi_iinc_ok h
  · exact mi_bin_ok (fun x y => Int32.ofInt_add x y) h
  · exact mi_bin_ok (fun x y => Int32.ofInt_sub x y) h
  · exact mi_bin_ok (fun x y => Int32.ofInt_mul x y) h
  · exact mi_bin_ok (fun x y => Int32.ofInt_toInt _) h
  · exact mi_bin_ok (fun x y => Int32.ofInt_toInt _) h
  · exact mi_bin_ok (fun x y => Int32.ofInt_toInt _) h
  · exact mi_bin_ok (fun x y => Int32.ofInt_toInt _) h
  · exact mi_bin_ok (fun x y => Int32.ofInt_toInt _) h
  · exact mi_bin_ok (fun x y => Int32.ofInt_toInt _) h
  · exact mi_div_ok (fun x y h1 h2 h3 => mi_tdiv_ok h1 h2 h3) h
  · exact mi_div_ok (fun x y h1 h2 h3 => by rw [Int32.ofInt_sub, Int32.ofInt_mul, mi_tdiv_ok h1 h2 h3]) h
  · exact mi_un_ok (fun x => Int32.ofInt_neg x) h
  · exact mi_un_ok (fun x => Int32.ofInt_toInt _) h
  · exact mi_i2l_ok h
  · exact mi_lsh_ok h
  · exact mi_lcm_ok h
  · exact mi_dup_ok h
  · exact mi_dupx1_ok h
  · exact mi_dupx2_ok h
  · exact mi_dup2_ok h
  · exact mi_pop_ok h
  · exact mi_if1_ok h
  · exact mi_if2_ok h
  · exact mi_jump_ok h
  · exact mi_tsw_ok h
  · exact mi_lsw_ok h
  · cases h
end MIP
