/-! the class's measures and memory, exactly -/
def mrc (M : MT) (f : Nat → Int) : Prop := ∀ i : Nat, i < 367 → f (4 * i + 0) = M 36 i ∧ f (4 * i + 1) = M 37 i ∧ f (4 * i + 2) = M 38 i ∧ f (4 * i + 3) = M 39 i
def mU (M : MT) (a i : Nat) (v : Int) : MT := uc M a (ua (M a) i v)
theorem mU_eq {M : MT} {a i : Nat} {v : Int} : mU M a i v a i = v := by
  unfold mU
  rw [uc_eq, ua_eq]
theorem mU_ne {M : MT} {a b i : Nat} {v : Int} (h : b ≠ a) : mU M a i v b = M b := by
  unfold mU
  rw [uc_ne h]
theorem mU_mU {M : MT} {a i : Nat} {v w : Int} : mU (mU M a i v) a i w = mU M a i w := by
  unfold mU
  rw [uc_uc, uc_eq]
  congr 1
  funext j
  by_cases h : j = i
  · subst h; rw [ua_eq, ua_eq]
  · rw [ua_ne h, ua_ne h, ua_ne h]
theorem mrc_s0 {M : MT} {f : Nat → Int} {q : Nat} {x v : Int} (h : mrc M f) (hx : x = 4 * (q : Int) + 0) (hq : q < 367) : mrc (mU M 36 q v) (ua f x.toNat v) := by
  intro i hi
  obtain ⟨h1, h2, h3, h4⟩ := h i hi
  have e : x.toNat = 4 * q + 0 := by omega
  rw [e]
  refine ⟨?_, ?_, ?_, ?_⟩
  · by_cases hi2 : i = q
    · subst hi2
      rw [ua_eq]
      exact mU_eq.symm
    · rw [ua_ne (by omega), h1]
      show M 36 i = ua (M 36) q v i
      rw [ua_ne hi2]
  · rw [ua_ne (by omega), h2]
    exact (congrFun (mU_ne (by decide)) i).symm
  · rw [ua_ne (by omega), h3]
    exact (congrFun (mU_ne (by decide)) i).symm
  · rw [ua_ne (by omega), h4]
    exact (congrFun (mU_ne (by decide)) i).symm
theorem mrc_s1 {M : MT} {f : Nat → Int} {q : Nat} {x v : Int} (h : mrc M f) (hx : x = 4 * (q : Int) + 1) (hq : q < 367) : mrc (mU M 37 q v) (ua f x.toNat v) := by
  intro i hi
  obtain ⟨h1, h2, h3, h4⟩ := h i hi
  have e : x.toNat = 4 * q + 1 := by omega
  rw [e]
  refine ⟨?_, ?_, ?_, ?_⟩
  · rw [ua_ne (by omega), h1]
    exact (congrFun (mU_ne (by decide)) i).symm
  · by_cases hi2 : i = q
    · subst hi2
      rw [ua_eq]
      exact mU_eq.symm
    · rw [ua_ne (by omega), h2]
      show M 37 i = ua (M 37) q v i
      rw [ua_ne hi2]
  · rw [ua_ne (by omega), h3]
    exact (congrFun (mU_ne (by decide)) i).symm
  · rw [ua_ne (by omega), h4]
    exact (congrFun (mU_ne (by decide)) i).symm
theorem mrc_s2 {M : MT} {f : Nat → Int} {q : Nat} {x v : Int} (h : mrc M f) (hx : x = 4 * (q : Int) + 2) (hq : q < 367) : mrc (mU M 38 q v) (ua f x.toNat v) := by
  intro i hi
  obtain ⟨h1, h2, h3, h4⟩ := h i hi
  have e : x.toNat = 4 * q + 2 := by omega
  rw [e]
  refine ⟨?_, ?_, ?_, ?_⟩
  · rw [ua_ne (by omega), h1]
    exact (congrFun (mU_ne (by decide)) i).symm
  · rw [ua_ne (by omega), h2]
    exact (congrFun (mU_ne (by decide)) i).symm
  · by_cases hi2 : i = q
    · subst hi2
      rw [ua_eq]
      exact mU_eq.symm
    · rw [ua_ne (by omega), h3]
      show M 38 i = ua (M 38) q v i
      rw [ua_ne hi2]
  · rw [ua_ne (by omega), h4]
    exact (congrFun (mU_ne (by decide)) i).symm
theorem mrc_s3 {M : MT} {f : Nat → Int} {q : Nat} {x v : Int} (h : mrc M f) (hx : x = 4 * (q : Int) + 3) (hq : q < 367) : mrc (mU M 39 q v) (ua f x.toNat v) := by
  intro i hi
  obtain ⟨h1, h2, h3, h4⟩ := h i hi
  have e : x.toNat = 4 * q + 3 := by omega
  rw [e]
  refine ⟨?_, ?_, ?_, ?_⟩
  · rw [ua_ne (by omega), h1]
    exact (congrFun (mU_ne (by decide)) i).symm
  · rw [ua_ne (by omega), h2]
    exact (congrFun (mU_ne (by decide)) i).symm
  · rw [ua_ne (by omega), h3]
    exact (congrFun (mU_ne (by decide)) i).symm
  · by_cases hi2 : i = q
    · subst hi2
      rw [ua_eq]
      exact mU_eq.symm
    · rw [ua_ne (by omega), h4]
      show M 39 i = ua (M 39) q v i
      rw [ua_ne hi2]
def mB (v : Int) : MT := fun a _ => if a = 36 then max 2 ((v + 32) / 64) else if a = 39 then 1 else 0
theorem bg_s {f : Nat → Int} {i g : Int} (h : ∀ j : Nat, j < 367 → ((j : Int) < i → f (4 * j) = g ∧ f (4 * j + 3) = 1) ∧ f (4 * j + 1) = 0 ∧ f (4 * j + 2) = 0) (hi : 0 ≤ i ∧ i < 367) : ∀ j : Nat, j < 367 → ((j : Int) < i + 1 → ua (ua f (4 * i + 0).toNat g) (4 * i + 3).toNat 1 (4 * j) = g ∧ ua (ua f (4 * i + 0).toNat g) (4 * i + 3).toNat 1 (4 * j + 3) = 1) ∧ ua (ua f (4 * i + 0).toNat g) (4 * i + 3).toNat 1 (4 * j + 1) = 0 ∧ ua (ua f (4 * i + 0).toNat g) (4 * i + 3).toNat 1 (4 * j + 2) = 0 := by
  intro j hj
  obtain ⟨h1, h2, h3⟩ := h j hj
  refine ⟨fun hl => ?_, ?_, ?_⟩
  · by_cases e : (j : Int) = i
    · refine ⟨?_, ?_⟩
      · rw [ua_ne (by omega), show 4 * j = (4 * i + 0).toNat by omega, ua_eq]
      · rw [show 4 * j + 3 = (4 * i + 3).toNat by omega, ua_eq]
    · have h4 := h1 (by omega)
      rw [ua_ne (by omega), ua_ne (by omega), ua_ne (by omega), ua_ne (by omega)]
      exact h4
  · rw [ua_ne (by omega), ua_ne (by omega)]
    exact h2
  · rw [ua_ne (by omega), ua_ne (by omega)]
    exact h3
theorem bg_e {f : Nat → Int} {i v : Int} (h : ∀ j : Nat, j < 367 → ((j : Int) < i → f (4 * j) = max 2 ((v + 32) / 64) ∧ f (4 * j + 3) = 1) ∧ f (4 * j + 1) = 0 ∧ f (4 * j + 2) = 0) (hi : 367 ≤ i) : mrc (mB v) f := by
  intro j hj
  obtain ⟨h1, h2, h3⟩ := h j hj
  obtain ⟨h4, h5⟩ := h1 (by omega)
  exact ⟨h4, h2, h3, h5⟩
theorem mi_shr1 {x : Int} (hx : -2147483648 ≤ x ∧ x ≤ 2147483647) : mi_shr x 1 = x / 2 := by
  have h := mi_shr_div (x := x) (k := 1) hx (by decide) (by decide)
  exact h
theorem mCnt_p {H : Int} {M : MT} {i : Nat} (e : M 39 i = H) : mCnt H M i = mU (mU (mU M 36 i (M 36 i / 2)) 37 i (M 37 i / 2)) 39 i (M 39 i / 2 + 1) := by
  unfold mCnt hv
  simp only [if_pos e]
  rfl
/-- a place's numbers are small -/
def bdm (M : MT) (q : Nat) : Prop := (0 ≤ M 36 q ∧ M 36 q ≤ 500000000) ∧ (-200000000 ≤ M 37 q ∧ M 37 q ≤ 200000000) ∧ (-128 ≤ M 38 q ∧ M 38 q ≤ 127) ∧ (1 ≤ M 39 q ∧ M 39 q ≤ 5000)
theorem mU_id {M : MT} {a i : Nat} : mU M a i (M a i) = M := by
  unfold mU
  have e : ua (M a) i (M a i) = M a := by
    funext j
    by_cases h : j = i
    · subst h; rw [ua_eq]
    · rw [ua_ne h]
  rw [e, uc_id]
theorem mCnt_n {H : Int} {M : MT} {i : Nat} (e : M 39 i ≠ H) : mCnt H M i = mU M 39 i (M 39 i + 1) := by
  have h1 : mCnt H M i = mU (mU (mU M 36 i (M 36 i)) 37 i (mU M 36 i (M 36 i) 37 i)) 39 i (M 39 i + 1) := by
    unfold mCnt hv
    simp only [if_neg e]
    rfl
  rw [h1, mU_id, mU_id]
theorem bdm_cnt {H : Int} {M : MT} {i : Nat} (h : bdm M i) (hn : M 39 i ≤ 4999 := by omega) : bdm (mCnt H M i) i := by
  obtain ⟨h1, h2, h3, h4⟩ := h
  have e6 : mCnt H M i 36 i = hv H (M 39 i) (M 36 i) := by show ua (M 36) i _ i = _; rw [ua_eq]
  have e7 : mCnt H M i 37 i = hv H (M 39 i) (M 37 i) := by show ua (M 37) i _ i = _; rw [ua_eq]
  have e9 : mCnt H M i 39 i = hv H (M 39 i) (M 39 i) + 1 := by show ua (M 39) i _ i = _; rw [ua_eq]
  have e8 : mCnt H M i 38 i = M 38 i := rfl
  unfold bdm
  rw [e6, e7, e8, e9]
  unfold hv
  refine ⟨?_, ?_, h3, ?_⟩ <;> split <;> omega
theorem mCor_n {M : MT} {i : Nat} (h : M 37 i ≤ -(M 39 i)) : mCor M i = mU (mU M 37 i (max (1 - M 39 i) (M 37 i + M 39 i))) 38 i (max (-128) (M 38 i - 1)) := by
  unfold mCor lB lC
  simp only [if_pos h]
  rfl
theorem mCor_p {M : MT} {i : Nat} (h : ¬ M 37 i ≤ -(M 39 i)) (h2 : 0 < M 37 i) : mCor M i = mU (mU M 37 i (min 0 (M 37 i - M 39 i))) 38 i (min 127 (M 38 i + 1)) := by
  unfold mCor lB lC
  simp only [if_neg h, if_pos h2]
  rfl
theorem mCor_z {M : MT} {i : Nat} (h : ¬ M 37 i ≤ -(M 39 i)) (h2 : ¬ 0 < M 37 i) : mCor M i = M := by
  have h1 : mCor M i = mU (mU M 37 i (M 37 i)) 38 i (mU M 37 i (M 37 i) 38 i) := by
    unfold mCor lB lC
    simp only [if_neg h, if_neg h2]
    rfl
  rw [h1, mU_id, mU_id]
theorem mi_shlg {x k : Int} (hx : 0 ≤ x) (h0 : 0 ≤ k) (hk : k ≤ 30) (hb : x * 2 ^ k.toNat ≤ 2147483647) : mi_shl x k = x * 2 ^ k.toNat := by
  obtain ⟨j, rfl⟩ : ∃ j : Nat, k = j := ⟨k.toNat, by omega⟩
  have hp : (1 : Int) ≤ 2 ^ j := Int.pow_pos (by decide)
  have hx1 : x * 1 ≤ x * 2 ^ j := Int.mul_le_mul_of_nonneg_left hp hx
  rw [Int.toNat_natCast] at hb
  rw [Int.mul_one] at hx1
  unfold mi_shl
  have hm : ∀ q : Nat, q < 31 → ((Int32.ofInt (q : Int) &&& 31).toBitVec.smod 32).toNat = q := by decide +kernel
  have hxn : ((Int32.ofInt x).toBitVec.toNat : Int) = x := by
    have e : (Int32.ofInt x).toInt = x := mi_ti (by omega)
    have e2 : (Int32.ofInt x).toBitVec.toInt = x := e
    rw [BitVec.toInt_eq_toNat_cond] at e2
    have hl := (Int32.ofInt x).toBitVec.isLt
    split at e2 <;> omega
  obtain ⟨y, hy⟩ : ∃ y : Nat, (Int32.ofInt x).toBitVec.toNat = y := ⟨_, rfl⟩
  rw [hy] at hxn
  subst hxn
  have hb2 : y * 2 ^ j ≤ 2147483647 := by
    have : ((y * 2 ^ j : Nat) : Int) ≤ 2147483647 := by
      rw [Int.natCast_mul, Int.natCast_pow]
      exact hb
    omega
  have e : (Int32.ofInt (y : Int) <<< (Int32.ofInt (j : Int) &&& 31)).toBitVec.toNat = y * 2 ^ j := by
    rw [Int32.toBitVec_shiftLeft, BitVec.shiftLeft_eq', hm j (by omega), BitVec.toNat_shiftLeft, hy, Nat.shiftLeft_eq, Nat.mod_eq_of_lt (by omega)]
  show (Int32.ofInt (y : Int) <<< (Int32.ofInt (j : Int) &&& 31)).toBitVec.toInt = _
  rw [BitVec.toInt_eq_toNat_cond, e, if_pos (by omega), Int.toNat_natCast, Int.natCast_mul, Int.natCast_pow]
  rfl
set_option maxRecDepth 100000 in
set_option maxHeartbeats 4000000 in
theorem e_grade {g : Nat → Int} {Zi : Nat → Option (Nat × (Nat → Int))} {d n q : Nat} {D : Nat → Nat × Nat} {s : Nat → Int} {p : Nat → Nat} {c : Nat → Nat → Int} (hd : 0 ≤ d) (hz : zk Zi) (hq : q + 0 ≤ 400000) (hD : wd n p) (hS : bS s) (hC : bC D c) (hW : wp q g n D p s) (Z : Nat → Int) (v : Int) (b_v : -65535 ≤ v ∧ v ≤ 65535) (hp0 : zq Z (s 800) (s 801) (s 802) (s 803) (s 804) (s 805) (s 806) (s 807) (s 808) (s 809)) : tt Zi d 37 (0, [some (.inr (.inl 8)), some (.inl v), none, none], [], n, D, s, p, c) (fun R H => ∃ (r : Int), R = .inl (some (.inl r)) ∧ H = (n, D, s, p, c) ∧ (-4 ≤ r ∧ r ≤ 4) ∧ (r = fG Z v)) := by
  have hzq := hp0
  obtain ⟨z0, z1, z2, z3, z4, z5, z6, z7, z8, z9⟩ := hzq
  refine tt_k 1 (S' := (1, [some (.inr (.inl 8)), some (.inl v), none, none], [.inl v], n, D, s, p, c)) rfl ?_
  refine tt_abs (k := 0) (x := v) rfl rfl (Nat.le_of_ble_eq_true rfl) (by omega) ?_
  show tt Zi d 37 (4, [some (.inr (.inl 8)), some (.inl v), none, none], [.inl (if 0 ≤ v then v else -v)], n, D, s, p, c) _
  refine tt_k 4 (S' := (10, [some (.inr (.inl 8)), some (.inl v), some (.inl (if 0 ≤ v then v else -v)), none], [.inl (s 801), .inl (if 0 ≤ v then v else -v)], n, D, s, p, c)) rfl ?_
  have b1 : -2147483648 ≤ (s 801) ∧ (s 801) ≤ 2147483647 := hS 801
  refine tb_gt (x := (if 0 ≤ v then v else -v)) (y := (s 801)) rfl rfl (by omega) (fun h2 => ?_) (fun h2 => ?_)
  · show tt Zi d 37 (17, [some (.inr (.inl 8)), some (.inl v), some (.inl (if 0 ≤ v then v else -v)), none], [], n, D, s, p, c) _
    refine tt_k 3 (S' := (22, [some (.inr (.inl 8)), some (.inl v), some (.inl (if 0 ≤ v then v else -v)), none], [.inl (s 802), .inl (if 0 ≤ v then v else -v)], n, D, s, p, c)) rfl ?_
    have b3 : -2147483648 ≤ (s 802) ∧ (s 802) ≤ 2147483647 := hS 802
    refine tb_ge (x := (if 0 ≤ v then v else -v)) (y := (s 802)) rfl rfl (by omega) (fun h4 => ?_) (fun h4 => ?_)
    · show tt Zi d 37 (29, [some (.inr (.inl 8)), some (.inl v), some (.inl (if 0 ≤ v then v else -v)), none], [], n, D, s, p, c) _
      refine tt_k 3 (S' := (34, [some (.inr (.inl 8)), some (.inl v), some (.inl (if 0 ≤ v then v else -v)), none], [.inl (s 803), .inl (if 0 ≤ v then v else -v)], n, D, s, p, c)) rfl ?_
      have b5 : -2147483648 ≤ (s 803) ∧ (s 803) ≤ 2147483647 := hS 803
      refine tb_ge (x := (if 0 ≤ v then v else -v)) (y := (s 803)) rfl rfl (by omega) (fun h6 => ?_) (fun h6 => ?_)
      · show tt Zi d 37 (41, [some (.inr (.inl 8)), some (.inl v), some (.inl (if 0 ≤ v then v else -v)), none], [], n, D, s, p, c) _
        refine tt_k 3 (S' := (46, [some (.inr (.inl 8)), some (.inl v), some (.inl (if 0 ≤ v then v else -v)), none], [.inl (s 804), .inl (if 0 ≤ v then v else -v)], n, D, s, p, c)) rfl ?_
        have b7 : -2147483648 ≤ (s 804) ∧ (s 804) ≤ 2147483647 := hS 804
        refine tb_ge (x := (if 0 ≤ v then v else -v)) (y := (s 804)) rfl rfl (by omega) (fun h8 => ?_) (fun h8 => ?_)
        · show tt Zi d 37 (53, [some (.inr (.inl 8)), some (.inl v), some (.inl (if 0 ≤ v then v else -v)), none], [], n, D, s, p, c) _
          refine tt_k 3 (S' := (56, [some (.inr (.inl 8)), some (.inl v), some (.inl (if 0 ≤ v then v else -v)), some (.inl 4)], [.inl v], n, D, s, p, c)) rfl ?_
          refine tz_ge (x := v) rfl rfl (by omega) (fun h9 => ?_) (fun h9 => ?_)
          · show tt Zi d 37 (64, [some (.inr (.inl 8)), some (.inl v), some (.inl (if 0 ≤ v then v else -v)), some (.inl 4)], [], n, D, s, p, c) _
            refine tt_k 1 (S' := (65, [some (.inr (.inl 8)), some (.inl v), some (.inl (if 0 ≤ v then v else -v)), some (.inl 4)], [.inl 4], n, D, s, p, c)) rfl ?_
            exact tt_rti rfl rfl ⟨4, rfl, rfl, by omega, by show 4 = fG Z v; unfold fG fg fA; simp only [← z1, ← z2, ← z3, ← z4]; (repeat' split) <;> omega⟩
          · show tt Zi d 37 (59, [some (.inr (.inl 8)), some (.inl v), some (.inl (if 0 ≤ v then v else -v)), some (.inl 4)], [], n, D, s, p, c) _
            refine tt_k 3 (S' := (65, [some (.inr (.inl 8)), some (.inl v), some (.inl (if 0 ≤ v then v else -v)), some (.inl 4)], [.inl (-4)], n, D, s, p, c)) rfl ?_
            exact tt_rti rfl rfl ⟨(-4), rfl, rfl, by omega, by show (-4) = fG Z v; unfold fG fg fA; simp only [← z1, ← z2, ← z3, ← z4]; (repeat' split) <;> omega⟩
        · show tt Zi d 37 (49, [some (.inr (.inl 8)), some (.inl v), some (.inl (if 0 ≤ v then v else -v)), none], [], n, D, s, p, c) _
          refine tt_k 4 (S' := (56, [some (.inr (.inl 8)), some (.inl v), some (.inl (if 0 ≤ v then v else -v)), some (.inl 3)], [.inl v], n, D, s, p, c)) rfl ?_
          refine tz_ge (x := v) rfl rfl (by omega) (fun h10 => ?_) (fun h10 => ?_)
          · show tt Zi d 37 (64, [some (.inr (.inl 8)), some (.inl v), some (.inl (if 0 ≤ v then v else -v)), some (.inl 3)], [], n, D, s, p, c) _
            refine tt_k 1 (S' := (65, [some (.inr (.inl 8)), some (.inl v), some (.inl (if 0 ≤ v then v else -v)), some (.inl 3)], [.inl 3], n, D, s, p, c)) rfl ?_
            exact tt_rti rfl rfl ⟨3, rfl, rfl, by omega, by show 3 = fG Z v; unfold fG fg fA; simp only [← z1, ← z2, ← z3, ← z4]; (repeat' split) <;> omega⟩
          · show tt Zi d 37 (59, [some (.inr (.inl 8)), some (.inl v), some (.inl (if 0 ≤ v then v else -v)), some (.inl 3)], [], n, D, s, p, c) _
            refine tt_k 3 (S' := (65, [some (.inr (.inl 8)), some (.inl v), some (.inl (if 0 ≤ v then v else -v)), some (.inl 3)], [.inl (-3)], n, D, s, p, c)) rfl ?_
            exact tt_rti rfl rfl ⟨(-3), rfl, rfl, by omega, by show (-3) = fG Z v; unfold fG fg fA; simp only [← z1, ← z2, ← z3, ← z4]; (repeat' split) <;> omega⟩
      · show tt Zi d 37 (37, [some (.inr (.inl 8)), some (.inl v), some (.inl (if 0 ≤ v then v else -v)), none], [], n, D, s, p, c) _
        refine tt_k 4 (S' := (56, [some (.inr (.inl 8)), some (.inl v), some (.inl (if 0 ≤ v then v else -v)), some (.inl 2)], [.inl v], n, D, s, p, c)) rfl ?_
        refine tz_ge (x := v) rfl rfl (by omega) (fun h11 => ?_) (fun h11 => ?_)
        · show tt Zi d 37 (64, [some (.inr (.inl 8)), some (.inl v), some (.inl (if 0 ≤ v then v else -v)), some (.inl 2)], [], n, D, s, p, c) _
          refine tt_k 1 (S' := (65, [some (.inr (.inl 8)), some (.inl v), some (.inl (if 0 ≤ v then v else -v)), some (.inl 2)], [.inl 2], n, D, s, p, c)) rfl ?_
          exact tt_rti rfl rfl ⟨2, rfl, rfl, by omega, by show 2 = fG Z v; unfold fG fg fA; simp only [← z1, ← z2, ← z3, ← z4]; (repeat' split) <;> omega⟩
        · show tt Zi d 37 (59, [some (.inr (.inl 8)), some (.inl v), some (.inl (if 0 ≤ v then v else -v)), some (.inl 2)], [], n, D, s, p, c) _
          refine tt_k 3 (S' := (65, [some (.inr (.inl 8)), some (.inl v), some (.inl (if 0 ≤ v then v else -v)), some (.inl 2)], [.inl (-2)], n, D, s, p, c)) rfl ?_
          exact tt_rti rfl rfl ⟨(-2), rfl, rfl, by omega, by show (-2) = fG Z v; unfold fG fg fA; simp only [← z1, ← z2, ← z3, ← z4]; (repeat' split) <;> omega⟩
    · show tt Zi d 37 (25, [some (.inr (.inl 8)), some (.inl v), some (.inl (if 0 ≤ v then v else -v)), none], [], n, D, s, p, c) _
      refine tt_k 4 (S' := (56, [some (.inr (.inl 8)), some (.inl v), some (.inl (if 0 ≤ v then v else -v)), some (.inl 1)], [.inl v], n, D, s, p, c)) rfl ?_
      refine tz_ge (x := v) rfl rfl (by omega) (fun h12 => ?_) (fun h12 => ?_)
      · show tt Zi d 37 (64, [some (.inr (.inl 8)), some (.inl v), some (.inl (if 0 ≤ v then v else -v)), some (.inl 1)], [], n, D, s, p, c) _
        refine tt_k 1 (S' := (65, [some (.inr (.inl 8)), some (.inl v), some (.inl (if 0 ≤ v then v else -v)), some (.inl 1)], [.inl 1], n, D, s, p, c)) rfl ?_
        exact tt_rti rfl rfl ⟨1, rfl, rfl, by omega, by show 1 = fG Z v; unfold fG fg fA; simp only [← z1, ← z2, ← z3, ← z4]; (repeat' split) <;> omega⟩
      · show tt Zi d 37 (59, [some (.inr (.inl 8)), some (.inl v), some (.inl (if 0 ≤ v then v else -v)), some (.inl 1)], [], n, D, s, p, c) _
        refine tt_k 3 (S' := (65, [some (.inr (.inl 8)), some (.inl v), some (.inl (if 0 ≤ v then v else -v)), some (.inl 1)], [.inl (-1)], n, D, s, p, c)) rfl ?_
        exact tt_rti rfl rfl ⟨(-1), rfl, rfl, by omega, by show (-1) = fG Z v; unfold fG fg fA; simp only [← z1, ← z2, ← z3, ← z4]; (repeat' split) <;> omega⟩
  · show tt Zi d 37 (13, [some (.inr (.inl 8)), some (.inl v), some (.inl (if 0 ≤ v then v else -v)), none], [], n, D, s, p, c) _
    refine tt_k 4 (S' := (56, [some (.inr (.inl 8)), some (.inl v), some (.inl (if 0 ≤ v then v else -v)), some (.inl 0)], [.inl v], n, D, s, p, c)) rfl ?_
    refine tz_ge (x := v) rfl rfl (by omega) (fun h13 => ?_) (fun h13 => ?_)
    · show tt Zi d 37 (64, [some (.inr (.inl 8)), some (.inl v), some (.inl (if 0 ≤ v then v else -v)), some (.inl 0)], [], n, D, s, p, c) _
      refine tt_k 1 (S' := (65, [some (.inr (.inl 8)), some (.inl v), some (.inl (if 0 ≤ v then v else -v)), some (.inl 0)], [.inl 0], n, D, s, p, c)) rfl ?_
      exact tt_rti rfl rfl ⟨0, rfl, rfl, by omega, by show 0 = fG Z v; unfold fG fg fA; simp only [← z1, ← z2, ← z3, ← z4]; (repeat' split) <;> omega⟩
    · show tt Zi d 37 (59, [some (.inr (.inl 8)), some (.inl v), some (.inl (if 0 ≤ v then v else -v)), some (.inl 0)], [], n, D, s, p, c) _
      refine tt_k 3 (S' := (65, [some (.inr (.inl 8)), some (.inl v), some (.inl (if 0 ≤ v then v else -v)), some (.inl 0)], [.inl (-0)], n, D, s, p, c)) rfl ?_
      exact tt_rti rfl rfl ⟨(-0), rfl, rfl, by omega, by show (-0) = fG Z v; unfold fG fg fA; simp only [← z1, ← z2, ← z3, ← z4]; (repeat' split) <;> omega⟩
set_option maxRecDepth 100000 in
set_option maxHeartbeats 4000000 in
theorem e_within {g : Nat → Int} {Zi : Nat → Option (Nat × (Nat → Int))} {d n q : Nat} {D : Nat → Nat × Nat} {s : Nat → Int} {p : Nat → Nat} {c : Nat → Nat → Int} (hd : 0 ≤ d) (hz : zk Zi) (hq : q + 0 ≤ 400000) (hD : wd n p) (hS : bS s) (hC : bC D c) (hW : wp q g n D p s) (Z : Nat → Int) (v : Int) (b_v : -2147483648 ≤ v ∧ v ≤ 2147483647) (hp0 : zq Z (s 800) (s 801) (s 802) (s 803) (s 804) (s 805) (s 806) (s 807) (s 808) (s 809)) : tt Zi d 40 (0, [some (.inr (.inl 8)), some (.inl v)], [], n, D, s, p, c) (fun R H => ∃ (r : Int), R = .inl (some (.inl r)) ∧ H = (n, D, s, p, c) ∧ (0 ≤ r ∧ r ≤ 65535) ∧ (r = fW Z v)) := by
  have hzq := hp0
  obtain ⟨z0, z1, z2, z3, z4, z5, z6, z7, z8, z9⟩ := hzq
  refine tt_k 4 (S' := (6, [some (.inr (.inl 8)), some (.inl v)], [.inl v, .inl (s 800), .inl 0], n, D, s, p, c)) rfl ?_
  have b1 : 0 ≤ (s 800) ∧ (s 800) ≤ 65535 := hS 800
  refine tt_min (k := 0) (x := (s 800)) (y := v) rfl rfl (Nat.le_of_ble_eq_true rfl) (by omega) ?_
  refine tt_max (k := 0) (x := 0) (y := (min (s 800) v)) rfl rfl (Nat.le_of_ble_eq_true rfl) (by omega) ?_
  exact tt_rti rfl rfl ⟨(max 0 (min (s 800) v)), rfl, rfl, by omega, by show ((max 0 (min (s 800) v))) = fW Z v; unfold fW; rw [← z0]⟩
set_option maxRecDepth 100000 in
set_option maxHeartbeats 4000000 in
theorem e_errorOf {g : Nat → Int} {Zi : Nat → Option (Nat × (Nat → Int))} {d n q : Nat} {D : Nat → Nat × Nat} {s : Nat → Int} {p : Nat → Nat} {c : Nat → Nat → Int} (hd : 0 ≤ d) (hz : zk Zi) (hq : q + 0 ≤ 400000) (hD : wd n p) (hS : bS s) (hC : bC D c) (hW : wp q g n D p s) (Z : Nat → Int) (v : Int) (b_v : -65535 ≤ v ∧ v ≤ 65535) (hp0 : zq Z (s 800) (s 801) (s 802) (s 803) (s 804) (s 805) (s 806) (s 807) (s 808) (s 809)) (hp1 : mv Z) (hp2 : -(Z 3017) ≤ v ∧ v ≤ Z 3017) : tt Zi d 45 (0, [some (.inr (.inl 8)), some (.inl v), none], [], n, D, s, p, c) (fun R H => ∃ (r : Int), R = .inl (some (.inl r)) ∧ H = (n, D, s, p, c) ∧ (-65536 ≤ r ∧ r ≤ 65536) ∧ (r = fE Z v) ∧ (-(Z 3024 / 2) ≤ r ∧ r ≤ (Z 3024 - 1) / 2)) := by
  have hzq := hp0
  obtain ⟨z0, z1, z2, z3, z4, z5, z6, z7, z8, z9⟩ := hzq
  have mvx := mv_fx (s := Z) hp1
  refine tt_k 1 (S' := (1, [some (.inr (.inl 8)), some (.inl v), none], [.inl v], n, D, s, p, c)) rfl ?_
  refine tz_le (x := v) rfl rfl (by omega) (fun h1 => ?_) (fun h1 => ?_)
  · show tt Zi d 45 (18, [some (.inr (.inl 8)), some (.inl v), none], [], n, D, s, p, c) _
    refine tt_k 6 (S' := (28, [some (.inr (.inl 8)), some (.inl v), none], [.inl (s 806), .inl ((s 801) - v)], n, D, s, p, c)) rfl ?_
    have b2 : -2147483648 ≤ (s 801) ∧ (s 801) ≤ 2147483647 := hS 801
    have b3 : 1 ≤ (s 806) ∧ (s 806) ≤ 511 := hS 806
    refine tt_dvp (x := ((s 801) - v)) (y := (s 806)) rfl (by omega) ?_
    show tt Zi d 45 (29, [some (.inr (.inl 8)), some (.inl v), none], [.inl ((((s 801) - v) / (s 806)))], n, D, s, p, c) _
    have b4 : 0 ≤ (((s 801) - v) / (s 806)) ∧ (((s 801) - v) / (s 806)) ≤ ((s 801) - v) := td_le (by omega) (by omega)
    have b5 : (((s 801) - v) / (s 806)) ≤ Z 3024 - 1 := by rw [z6]; exact mv_div hp1 (by omega)
    refine tt_k 3 (S' := (32, [some (.inr (.inl 8)), some (.inl v), some (.inl ((-(((s 801) - v) / (s 806)))))], [.inl ((-(((s 801) - v) / (s 806))))], n, D, s, p, c)) rfl ?_
    refine tz_ge (x := (-(((s 801) - v) / (s 806)))) rfl rfl (by omega) (fun h6 => ?_) (fun h6 => ?_)
    · show tt Zi d 45 (42, [some (.inr (.inl 8)), some (.inl v), some (.inl ((-(((s 801) - v) / (s 806)))))], [], n, D, s, p, c) _
      refine tt_k 6 (S' := (50, [some (.inr (.inl 8)), some (.inl v), some (.inl ((-(((s 801) - v) / (s 806)))))], [.inl 2, .inl ((s 807) + 1), .inl ((-(((s 801) - v) / (s 806))))], n, D, s, p, c)) rfl ?_
      have b7 : 0 ≤ (s 807) ∧ (s 807) ≤ 65536 := hS 807
      refine tt_dvp (x := ((s 807) + 1)) (y := 2) rfl (by omega) ?_
      show tt Zi d 45 (51, [some (.inr (.inl 8)), some (.inl v), some (.inl ((-(((s 801) - v) / (s 806)))))], [.inl ((((s 807) + 1) / 2)), .inl ((-(((s 801) - v) / (s 806))))], n, D, s, p, c) _
      refine tb_lt (x := (-(((s 801) - v) / (s 806)))) (y := (((s 807) + 1) / 2)) rfl rfl (by omega) (fun h8 => ?_) (fun h8 => ?_)
      · show tt Zi d 45 (63, [some (.inr (.inl 8)), some (.inl v), some (.inl ((-(((s 801) - v) / (s 806)))))], [], n, D, s, p, c) _
        refine tt_k 1 (S' := (64, [some (.inr (.inl 8)), some (.inl v), some (.inl ((-(((s 801) - v) / (s 806)))))], [.inl ((-(((s 801) - v) / (s 806))))], n, D, s, p, c)) rfl ?_
        exact tt_rti rfl rfl ⟨(-(((s 801) - v) / (s 806))), rfl, rfl, by omega, by show ((-(((s 801) - v) / (s 806)))) = fE Z v; unfold fE fE3 fE2 fE1; simp only [← z1, ← z6, ← z7]; (repeat' split) <;> omega, by show -(Z 3024 / 2) ≤ ((-(((s 801) - v) / (s 806)))) ∧ ((-(((s 801) - v) / (s 806)))) ≤ (Z 3024 - 1) / 2; omega⟩
      · exfalso; omega
    · show tt Zi d 45 (35, [some (.inr (.inl 8)), some (.inl v), some (.inl ((-(((s 801) - v) / (s 806)))))], [], n, D, s, p, c) _
      refine tt_k 11 (S' := (50, [some (.inr (.inl 8)), some (.inl v), some (.inl (((-(((s 801) - v) / (s 806))) + (s 807))))], [.inl 2, .inl ((s 807) + 1), .inl (((-(((s 801) - v) / (s 806))) + (s 807)))], n, D, s, p, c)) rfl ?_
      have b9 : 0 ≤ (s 807) ∧ (s 807) ≤ 65536 := hS 807
      refine tt_dvp (x := ((s 807) + 1)) (y := 2) rfl (by omega) ?_
      show tt Zi d 45 (51, [some (.inr (.inl 8)), some (.inl v), some (.inl (((-(((s 801) - v) / (s 806))) + (s 807))))], [.inl ((((s 807) + 1) / 2)), .inl (((-(((s 801) - v) / (s 806))) + (s 807)))], n, D, s, p, c) _
      refine tb_lt (x := ((-(((s 801) - v) / (s 806))) + (s 807))) (y := (((s 807) + 1) / 2)) rfl rfl (by omega) (fun h10 => ?_) (fun h10 => ?_)
      · show tt Zi d 45 (63, [some (.inr (.inl 8)), some (.inl v), some (.inl (((-(((s 801) - v) / (s 806))) + (s 807))))], [], n, D, s, p, c) _
        refine tt_k 1 (S' := (64, [some (.inr (.inl 8)), some (.inl v), some (.inl (((-(((s 801) - v) / (s 806))) + (s 807))))], [.inl (((-(((s 801) - v) / (s 806))) + (s 807)))], n, D, s, p, c)) rfl ?_
        exact tt_rti rfl rfl ⟨((-(((s 801) - v) / (s 806))) + (s 807)), rfl, rfl, by omega, by show (((-(((s 801) - v) / (s 806))) + (s 807))) = fE Z v; unfold fE fE3 fE2 fE1; simp only [← z1, ← z6, ← z7]; (repeat' split) <;> omega, by show -(Z 3024 / 2) ≤ (((-(((s 801) - v) / (s 806))) + (s 807))) ∧ (((-(((s 801) - v) / (s 806))) + (s 807))) ≤ (Z 3024 - 1) / 2; omega⟩
      · show tt Zi d 45 (54, [some (.inr (.inl 8)), some (.inl v), some (.inl (((-(((s 801) - v) / (s 806))) + (s 807))))], [], n, D, s, p, c) _
        refine tt_k 5 (S' := (64, [some (.inr (.inl 8)), some (.inl v), some (.inl (((-(((s 801) - v) / (s 806))) + (s 807))))], [.inl ((((-(((s 801) - v) / (s 806))) + (s 807)) - (s 807)))], n, D, s, p, c)) rfl ?_
        exact tt_rti rfl rfl ⟨(((-(((s 801) - v) / (s 806))) + (s 807)) - (s 807)), rfl, rfl, by omega, by show ((((-(((s 801) - v) / (s 806))) + (s 807)) - (s 807))) = fE Z v; unfold fE fE3 fE2 fE1; simp only [← z1, ← z6, ← z7]; (repeat' split) <;> omega, by show -(Z 3024 / 2) ≤ ((((-(((s 801) - v) / (s 806))) + (s 807)) - (s 807))) ∧ ((((-(((s 801) - v) / (s 806))) + (s 807)) - (s 807))) ≤ (Z 3024 - 1) / 2; omega⟩
  · show tt Zi d 45 (4, [some (.inr (.inl 8)), some (.inl v), none], [], n, D, s, p, c) _
    refine tt_k 6 (S' := (14, [some (.inr (.inl 8)), some (.inl v), none], [.inl (s 806), .inl (v + (s 801))], n, D, s, p, c)) rfl ?_
    have b11 : -2147483648 ≤ (s 801) ∧ (s 801) ≤ 2147483647 := hS 801
    have b12 : 1 ≤ (s 806) ∧ (s 806) ≤ 511 := hS 806
    refine tt_dvp (x := (v + (s 801))) (y := (s 806)) rfl (by omega) ?_
    show tt Zi d 45 (15, [some (.inr (.inl 8)), some (.inl v), none], [.inl (((v + (s 801)) / (s 806)))], n, D, s, p, c) _
    have b13 : 0 ≤ ((v + (s 801)) / (s 806)) ∧ ((v + (s 801)) / (s 806)) ≤ (v + (s 801)) := td_le (by omega) (by omega)
    have b14 : ((v + (s 801)) / (s 806)) ≤ Z 3024 - 1 := by rw [z6]; exact mv_div hp1 (by omega)
    refine tt_k 3 (S' := (32, [some (.inr (.inl 8)), some (.inl v), some (.inl (((v + (s 801)) / (s 806))))], [.inl (((v + (s 801)) / (s 806)))], n, D, s, p, c)) rfl ?_
    refine tz_ge (x := ((v + (s 801)) / (s 806))) rfl rfl (by omega) (fun h15 => ?_) (fun h15 => ?_)
    · show tt Zi d 45 (42, [some (.inr (.inl 8)), some (.inl v), some (.inl (((v + (s 801)) / (s 806))))], [], n, D, s, p, c) _
      refine tt_k 6 (S' := (50, [some (.inr (.inl 8)), some (.inl v), some (.inl (((v + (s 801)) / (s 806))))], [.inl 2, .inl ((s 807) + 1), .inl (((v + (s 801)) / (s 806)))], n, D, s, p, c)) rfl ?_
      have b16 : 0 ≤ (s 807) ∧ (s 807) ≤ 65536 := hS 807
      refine tt_dvp (x := ((s 807) + 1)) (y := 2) rfl (by omega) ?_
      show tt Zi d 45 (51, [some (.inr (.inl 8)), some (.inl v), some (.inl (((v + (s 801)) / (s 806))))], [.inl ((((s 807) + 1) / 2)), .inl (((v + (s 801)) / (s 806)))], n, D, s, p, c) _
      refine tb_lt (x := ((v + (s 801)) / (s 806))) (y := (((s 807) + 1) / 2)) rfl rfl (by omega) (fun h17 => ?_) (fun h17 => ?_)
      · show tt Zi d 45 (63, [some (.inr (.inl 8)), some (.inl v), some (.inl (((v + (s 801)) / (s 806))))], [], n, D, s, p, c) _
        refine tt_k 1 (S' := (64, [some (.inr (.inl 8)), some (.inl v), some (.inl (((v + (s 801)) / (s 806))))], [.inl (((v + (s 801)) / (s 806)))], n, D, s, p, c)) rfl ?_
        exact tt_rti rfl rfl ⟨((v + (s 801)) / (s 806)), rfl, rfl, by omega, by show (((v + (s 801)) / (s 806))) = fE Z v; unfold fE fE3 fE2 fE1; simp only [← z1, ← z6, ← z7]; (repeat' split) <;> omega, by show -(Z 3024 / 2) ≤ (((v + (s 801)) / (s 806))) ∧ (((v + (s 801)) / (s 806))) ≤ (Z 3024 - 1) / 2; omega⟩
      · show tt Zi d 45 (54, [some (.inr (.inl 8)), some (.inl v), some (.inl (((v + (s 801)) / (s 806))))], [], n, D, s, p, c) _
        refine tt_k 5 (S' := (64, [some (.inr (.inl 8)), some (.inl v), some (.inl (((v + (s 801)) / (s 806))))], [.inl ((((v + (s 801)) / (s 806)) - (s 807)))], n, D, s, p, c)) rfl ?_
        exact tt_rti rfl rfl ⟨(((v + (s 801)) / (s 806)) - (s 807)), rfl, rfl, by omega, by show ((((v + (s 801)) / (s 806)) - (s 807))) = fE Z v; unfold fE fE3 fE2 fE1; simp only [← z1, ← z6, ← z7]; (repeat' split) <;> omega, by show -(Z 3024 / 2) ≤ ((((v + (s 801)) / (s 806)) - (s 807))) ∧ ((((v + (s 801)) / (s 806)) - (s 807))) ≤ (Z 3024 - 1) / 2; omega⟩
    · exfalso; omega
set_option maxRecDepth 100000 in
set_option maxHeartbeats 4000000 in
theorem e_rebuilt {g : Nat → Int} {Zi : Nat → Option (Nat × (Nat → Int))} {d n q : Nat} {D : Nat → Nat × Nat} {s : Nat → Int} {p : Nat → Nat} {c : Nat → Nat → Int} (hd : 1 ≤ d) (hz : zk Zi) (hq : q + 2 ≤ 400000) (hD : wd n p) (hS : bS s) (hC : bC D c) (hW : wp q g n D p s) (Z : Nat → Int) (g_ : Int) (e : Int) (b_g_ : 0 ≤ g_ ∧ g_ ≤ 65535) (b_e : -65536 ≤ e ∧ e ≤ 65536) (hp0 : zq Z (s 800) (s 801) (s 802) (s 803) (s 804) (s 805) (s 806) (s 807) (s 808) (s 809)) (hp1 : mv Z) : tt Zi d 51 (0, [some (.inr (.inl 8)), some (.inl g_), some (.inl e), none], [], n, D, s, p, c) (fun R H => ∃ (r : Int), R = .inl (some (.inl r)) ∧ H = (n, D, s, p, c) ∧ (0 ≤ r ∧ r ≤ 65535) ∧ (r = fR Z g_ e)) := by
  have hzq := hp0
  obtain ⟨z0, z1, z2, z3, z4, z5, z6, z7, z8, z9⟩ := hzq
  have mvx := mv_fx (s := Z) hp1
  have hm := mul_bd (e := e) (st := s 806) (a := 65536) (b := 511) (by omega) (by omega) (by omega) (by omega) (by omega)
  have hz67 : s 807 * s 806 = Z 3024 * Z 3023 := by rw [z6, z7]
  refine tt_k 11 (S' := (15, [some (.inr (.inl 8)), some (.inl g_), some (.inl e), some (.inl ((g_ + (e * (s 806)))))], [.inl (-(s 801)), .inl ((g_ + (e * (s 806))))], n, D, s, p, c)) rfl ?_
  have b1 : 1 ≤ (s 806) ∧ (s 806) ≤ 511 := hS 806
  have m2 := mul_bd (e := e) (st := (s 806)) (a := 65536) (b := 511) (by omega) (by omega) (by omega) (by omega) (by omega)
  have b3 : -2147483648 ≤ (s 801) ∧ (s 801) ≤ 2147483647 := hS 801
  refine tb_ge (x := (g_ + (e * (s 806)))) (y := (-(s 801))) rfl rfl (by omega) (fun h4 => ?_) (fun h4 => ?_)
  · show tt Zi d 51 (33, [some (.inr (.inl 8)), some (.inl g_), some (.inl e), some (.inl ((g_ + (e * (s 806)))))], [], n, D, s, p, c) _
    refine tt_k 6 (S' := (43, [some (.inr (.inl 8)), some (.inl g_), some (.inl e), some (.inl ((g_ + (e * (s 806)))))], [.inl ((s 800) + (s 801)), .inl ((g_ + (e * (s 806))))], n, D, s, p, c)) rfl ?_
    have b5 : 0 ≤ (s 800) ∧ (s 800) ≤ 65535 := hS 800
    refine tb_le (x := (g_ + (e * (s 806)))) (y := ((s 800) + (s 801))) rfl rfl (by omega) (fun h6 => ?_) (fun h6 => ?_)
    · show tt Zi d 51 (58, [some (.inr (.inl 8)), some (.inl g_), some (.inl e), some (.inl ((g_ + (e * (s 806)))))], [], n, D, s, p, c) _
      refine tt_k 2 (S' := (60, [some (.inr (.inl 8)), some (.inl g_), some (.inl e), some (.inl ((g_ + (e * (s 806)))))], [.inl ((g_ + (e * (s 806)))), .inr (.inl 8)], n, D, s, p, c)) rfl ?_
      have b7 : -2147483648 ≤ (s 802) ∧ (s 802) ≤ 2147483647 := hS 802
      have b8 : -2147483648 ≤ (s 803) ∧ (s 803) ≤ 2147483647 := hS 803
      have b9 : -2147483648 ≤ (s 804) ∧ (s 804) ≤ 2147483647 := hS 804
      have b10 : 0 ≤ (s 805) ∧ (s 805) ≤ 65535 := hS 805
      have b11 : 0 ≤ (s 807) ∧ (s 807) ≤ 65536 := hS 807
      have b12 : 0 ≤ (s 808) ∧ (s 808) ≤ 30 := hS 808
      have b13 : 0 ≤ (s 809) ∧ (s 809) ≤ 64 := hS 809
      refine tt_cl (by omega) rfl (e_within (Zi := Zi) (q := q) (n := n) (D := D) (s := s) (p := p) (c := c) (by omega) hz (by omega) hD hS hC hW Z ((g_ + (e * (s 806)))) (by omega) hp0) ?_
      rintro _ _ ⟨r14, rfl, rfl, b15, k16⟩
      show tt Zi d 51 (63, [some (.inr (.inl 8)), some (.inl g_), some (.inl e), some (.inl ((g_ + (e * (s 806)))))], [.inl r14], n, D, s, p, c) _
      replace k16 : r14 = fW Z ((g_ + (e * (s 806)))) := k16
      exact tt_rti rfl rfl ⟨r14, rfl, rfl, by omega, by show r14 = fR Z g_ e; rw [k16]; unfold fR fR1; simp only [← z0, ← z1, ← z6, ← z7]; congr 1; (repeat' split) <;> omega⟩
    · show tt Zi d 51 (46, [some (.inr (.inl 8)), some (.inl g_), some (.inl e), some (.inl ((g_ + (e * (s 806)))))], [], n, D, s, p, c) _
      refine tt_k 10 (S' := (60, [some (.inr (.inl 8)), some (.inl g_), some (.inl e), some (.inl (((g_ + (e * (s 806))) - ((s 807) * (s 806)))))], [.inl (((g_ + (e * (s 806))) - ((s 807) * (s 806)))), .inr (.inl 8)], n, D, s, p, c)) rfl ?_
      have b17 : 0 ≤ (s 807) ∧ (s 807) ≤ 65536 := hS 807
      have m18 := mul_bd (e := (s 807)) (st := (s 806)) (a := 65536) (b := 511) (by omega) (by omega) (by omega) (by omega) (by omega)
      have b19 : -2147483648 ≤ (s 802) ∧ (s 802) ≤ 2147483647 := hS 802
      have b20 : -2147483648 ≤ (s 803) ∧ (s 803) ≤ 2147483647 := hS 803
      have b21 : -2147483648 ≤ (s 804) ∧ (s 804) ≤ 2147483647 := hS 804
      have b22 : 0 ≤ (s 805) ∧ (s 805) ≤ 65535 := hS 805
      have b23 : 0 ≤ (s 808) ∧ (s 808) ≤ 30 := hS 808
      have b24 : 0 ≤ (s 809) ∧ (s 809) ≤ 64 := hS 809
      refine tt_cl (by omega) rfl (e_within (Zi := Zi) (q := q) (n := n) (D := D) (s := s) (p := p) (c := c) (by omega) hz (by omega) hD hS hC hW Z (((g_ + (e * (s 806))) - ((s 807) * (s 806)))) (by omega) hp0) ?_
      rintro _ _ ⟨r25, rfl, rfl, b26, k27⟩
      show tt Zi d 51 (63, [some (.inr (.inl 8)), some (.inl g_), some (.inl e), some (.inl (((g_ + (e * (s 806))) - ((s 807) * (s 806)))))], [.inl r25], n, D, s, p, c) _
      replace k27 : r25 = fW Z (((g_ + (e * (s 806))) - ((s 807) * (s 806)))) := k27
      exact tt_rti rfl rfl ⟨r25, rfl, rfl, by omega, by show r25 = fR Z g_ e; rw [k27]; unfold fR fR1; simp only [← z0, ← z1, ← z6, ← z7]; congr 1; (repeat' split) <;> omega⟩
  · show tt Zi d 51 (18, [some (.inr (.inl 8)), some (.inl g_), some (.inl e), some (.inl ((g_ + (e * (s 806)))))], [], n, D, s, p, c) _
    refine tt_k 11 (S' := (60, [some (.inr (.inl 8)), some (.inl g_), some (.inl e), some (.inl (((g_ + (e * (s 806))) + ((s 807) * (s 806)))))], [.inl (((g_ + (e * (s 806))) + ((s 807) * (s 806)))), .inr (.inl 8)], n, D, s, p, c)) rfl ?_
    have b28 : 0 ≤ (s 807) ∧ (s 807) ≤ 65536 := hS 807
    have m29 := mul_bd (e := (s 807)) (st := (s 806)) (a := 65536) (b := 511) (by omega) (by omega) (by omega) (by omega) (by omega)
    have b30 : 0 ≤ (s 800) ∧ (s 800) ≤ 65535 := hS 800
    have b31 : -2147483648 ≤ (s 802) ∧ (s 802) ≤ 2147483647 := hS 802
    have b32 : -2147483648 ≤ (s 803) ∧ (s 803) ≤ 2147483647 := hS 803
    have b33 : -2147483648 ≤ (s 804) ∧ (s 804) ≤ 2147483647 := hS 804
    have b34 : 0 ≤ (s 805) ∧ (s 805) ≤ 65535 := hS 805
    have b35 : 0 ≤ (s 808) ∧ (s 808) ≤ 30 := hS 808
    have b36 : 0 ≤ (s 809) ∧ (s 809) ≤ 64 := hS 809
    refine tt_cl (by omega) rfl (e_within (Zi := Zi) (q := q) (n := n) (D := D) (s := s) (p := p) (c := c) (by omega) hz (by omega) hD hS hC hW Z (((g_ + (e * (s 806))) + ((s 807) * (s 806)))) (by omega) hp0) ?_
    rintro _ _ ⟨r37, rfl, rfl, b38, k39⟩
    show tt Zi d 51 (63, [some (.inr (.inl 8)), some (.inl g_), some (.inl e), some (.inl (((g_ + (e * (s 806))) + ((s 807) * (s 806)))))], [.inl r37], n, D, s, p, c) _
    replace k39 : r37 = fW Z (((g_ + (e * (s 806))) + ((s 807) * (s 806)))) := k39
    exact tt_rti rfl rfl ⟨r37, rfl, rfl, by omega, by show r37 = fR Z g_ e; rw [k39]; unfold fR fR1; simp only [← z0, ← z1, ← z6, ← z7]; congr 1; (repeat' split) <;> omega⟩
set_option maxRecDepth 100000 in
set_option maxHeartbeats 4000000 in
theorem e_begin_L22 {g : Nat → Int} {Zi : Nat → Option (Nat × (Nat → Int))} {d n q : Nat} {D : Nat → Nat × Nat} {s : Nat → Int} {p : Nat → Nat} {c : Nat → Nat → Int} {o_1 : Option mi_V} {Q : mi_Rs → mi_H → Prop} (hd : 1 ≤ d) (hz : zk Zi) (hq : q + 2 ≤ 400001) (hD : wd n p) (hS : bS s) (hC : bC D c) (hW : wp q g n D p s) (f_ : Int) (b_f_ : 0 ≤ f_ ∧ f_ ≤ 65536)
  (hK : ∀ (i : Int) (c0 : Nat → Nat → Int) (b_i : 0 ≤ i ∧ i ≤ 367) (hC0 : bC D c0) (hK0 : fk p c n p c0 [901]) (i0 : ∀ j : Nat, j < 367 → ((j : Int) < i → (c0 (p 901)) (4 * j) = f_ ∧ (c0 (p 901)) (4 * j + 3) = 1) ∧ (c0 (p 901)) (4 * j + 1) = 0 ∧ (c0 (p 901)) (4 * j + 2) = 0), (367 ≤ i) → tt Zi d 33 (57, [some (.inr (.inl 9)), o_1, some (.inl f_), some (.inl i)], [], n, D, s, p, c0) Q) :
  ∀ (m : Nat) (i : Int) (c0 : Nat → Nat → Int) (b_i : 0 ≤ i ∧ i ≤ 367) (hC0 : bC D c0) (hK0 : fk p c n p c0 [901]) (i0 : ∀ j : Nat, j < 367 → ((j : Int) < i → (c0 (p 901)) (4 * j) = f_ ∧ (c0 (p 901)) (4 * j + 3) = 1) ∧ (c0 (p 901)) (4 * j + 1) = 0 ∧ (c0 (p 901)) (4 * j + 2) = 0), (367 - i).toNat < m → tt Zi d 33 (22, [some (.inr (.inl 9)), o_1, some (.inl f_), some (.inl i)], [], n, D, s, p, c0) Q := by
  intro m
  induction m with
  | zero => intro i c0 b_i hC0 hK0 i0 hm; exact absurd hm (by omega)
  | succ m ih =>
    intro i c0 b_i hC0 hK0 i0 hm
    refine tt_k 2 (S' := (26, [some (.inr (.inl 9)), o_1, some (.inl f_), some (.inl i)], [.inl 367, .inl i], n, D, s, p, c0)) rfl ?_
    refine tb_ge (x := i) (y := 367) rfl rfl (by omega) (fun h1 => ?_) (fun h1 => ?_)
    · show tt Zi d 33 (57, [some (.inr (.inl 9)), o_1, some (.inl f_), some (.inl i)], [], n, D, s, p, c0) _
      exact hK i c0 (by omega) hC0 hK0 i0 (by omega)
    · show tt Zi d 33 (29, [some (.inr (.inl 9)), o_1, some (.inl f_), some (.inl i)], [], n, D, s, p, c0) _
      refine tt_k 8 (S' := (39, [some (.inr (.inl 9)), o_1, some (.inl f_), some (.inl i)], [.inl f_, .inl ((4 * i) + 0), .inr (.inl (p 901))], n, D, s, p, c0)) rfl ?_
      refine tt_isb (i := ((4 * i) + 0)) (m := 1468) (lo := -2147483648) (hi := 2147483647) (x := f_) rfl ((sw_arr (hW).m9 rfl rfl).2) (by omega) hC0 ((sw_now (hW).m9).2) (by omega) ?_
      intro c2 hC2 ec2
      show tt Zi d 33 (40, [some (.inr (.inl 9)), o_1, some (.inl f_), some (.inl i)], [], n, D, s, p, c2) _
      have FK3 : fk p c n p c2 [901] := fk_st (k := 901) hK0 ec2 (by decide) rfl
      refine tt_k 8 (S' := (50, [some (.inr (.inl 9)), o_1, some (.inl f_), some (.inl i)], [.inl 1, .inl ((4 * i) + 3), .inr (.inl (p 901))], n, D, s, p, c2)) rfl ?_
      refine tt_isb (i := ((4 * i) + 3)) (m := 1468) (lo := -2147483648) (hi := 2147483647) (x := 1) rfl ((sw_arr (hW).m9 rfl rfl).2) (by omega) hC2 ((sw_now (hW).m9).2) (by omega) ?_
      intro c4 hC4 ec4
      show tt Zi d 33 (51, [some (.inr (.inl 9)), o_1, some (.inl f_), some (.inl i)], [], n, D, s, p, c4) _
      have FK5 : fk p c n p c4 [901] := fk_st (k := 901) FK3 ec4 (by decide) rfl
      refine tt_k 2 (S' := (22, [some (.inr (.inl 9)), o_1, some (.inl f_), some (.inl (i + 1))], [], n, D, s, p, c4)) rfl ?_
      have hbg : c4 (p 901) = ua (ua (c0 (p 901)) (((4 * i) + 0)).toNat f_) (((4 * i) + 3)).toNat 1 := by rw [ec4, uc_eq, ec2, uc_eq]
      exact ih (i + 1) c4 (by omega) hC4 FK5 (by rw [hbg]; exact bg_s i0 (by omega)) (show (367 - (i + 1)).toNat < m by omega)
set_option maxRecDepth 100000 in
set_option maxHeartbeats 4000000 in
theorem e_begin {g : Nat → Int} {Zi : Nat → Option (Nat × (Nat → Int))} {d n q : Nat} {D : Nat → Nat × Nat} {s : Nat → Int} {p : Nat → Nat} {c : Nat → Nat → Int} (hd : 1 ≤ d) (hz : zk Zi) (hq : q + 2 ≤ 400000) (hD : wd n p) (hS : bS s) (hC : bC D c) (hW : wp q g n D p s) (v : Int) (b_v : 0 ≤ v ∧ v ≤ 65536) : tt Zi d 33 (0, [some (.inr (.inl 9)), some (.inl v), none, none], [], n, D, s, p, c) (fun R H => ∃ (s' : Nat → Int) (c' : Nat → Nat → Int), R = .inl none ∧ H = (n, D, s', p, c') ∧ bS s' ∧ bC D c' ∧ wp q g n D p s' ∧ fr s s' [902] ∧ fk p c n p c' [901] ∧ (mrc (mB v) (c' (p 901))) ∧ (s' 902 = 0)) := by
  refine tt_k 5 (S' := (7, [some (.inr (.inl 9)), some (.inl v), none, none], [.inl 64, .inl (v + 32), .inl 2], n, D, s, p, c)) rfl ?_
  refine tt_dvp (x := (v + 32)) (y := 64) rfl (by omega) ?_
  show tt Zi d 33 (8, [some (.inr (.inl 9)), some (.inl v), none, none], [.inl ((v + 32) / 64), .inl 2], n, D, s, p, c) _
  refine tt_max (k := 0) (x := 2) (y := ((v + 32) / 64)) rfl rfl (Nat.le_of_ble_eq_true rfl) (by omega) ?_
  refine tt_k 4 (S' := (17, [some (.inr (.inl 9)), some (.inl v), some (.inl ((max 2 ((v + 32) / 64)))), none], [.inl 0, .inr (.inl (p 901))], n, D, s, p, c)) rfl ?_
  refine tt_cl (by omega) rfl (g_fill (A := (p 901)) (m := 1468) (s := s) (p := p) ((sw_arr (hW).m9 rfl rfl).2) (by omega) (by rw [(show bC_lo D (p 901) = -2147483648 ∧ bC_hi D (p 901) = 2147483647 from ((sw_now (hW).m9).2)).1, (show bC_lo D (p 901) = -2147483648 ∧ bC_hi D (p 901) = 2147483647 from ((sw_now (hW).m9).2)).2]; decide) hC) ?_
  rintro _ _ ⟨c1, rfl, rfl, hC1, fc1, ec1, zc1⟩
  show tt Zi d 33 (20, [some (.inr (.inl 9)), some (.inl v), some (.inl ((max 2 ((v + 32) / 64)))), none], [], n, D, s, p, c1) _
  have FK2 : fk p c n p c1 [901] := fk_st (k := 901) (fk_rf hD) ec1 (by decide) rfl
  refine tt_k 2 (S' := (22, [some (.inr (.inl 9)), some (.inl v), some (.inl ((max 2 ((v + 32) / 64)))), some (.inl 0)], [], n, D, s, p, c1)) rfl ?_
  refine e_begin_L22 (Zi := Zi) (q := q) (n := n) (D := D) (s := s) (p := p) (c := c1) hd hz (by omega) FK2.1 hS hC1 hW  ((max 2 ((v + 32) / 64))) (by omega)   ?_ _ 0 c1 (by omega) hC1 (fk_rf FK2.1) (fun j hj => ⟨fun h => absurd h (by omega), by rw [ec1, uc_eq]; exact zc1 _ (by omega), by rw [ec1, uc_eq]; exact zc1 _ (by omega)⟩) (Nat.lt_succ_self _)
  intro x3 c4 b5 hC4 kf6 i7 hx8
  show tt Zi d 33 (57, [some (.inr (.inl 9)), some (.inl v), some (.inl ((max 2 ((v + 32) / 64)))), some (.inl x3)], [], n, D, s, p, c4) _
  have FK9 : fk p c n p c4 [901] := fk_tr FK2 kf6 (by decide)
  replace hx8 : 367 ≤ x3 := hx8
  refine tt_k 3 (S' := (62, [some (.inr (.inl 9)), some (.inl v), some (.inl ((max 2 ((v + 32) / 64)))), some (.inl x3)], [], n, D, (us s 902 0), p, c4)) rfl ?_
  exact tt_rtv rfl rfl ⟨(us s 902 0), c4, rfl, rfl, (bS_us hS (show 0 ≤ 0 ∧ 0 ≤ 31 by omega)), hC4, (wp_us (by decide) hW), (fr_us (by decide) fr_rf), FK9, bg_e i7 (by omega), rfl⟩
set_option maxRecDepth 100000 in
set_option maxHeartbeats 4000000 in
theorem e_correction {g : Nat → Int} {Zi : Nat → Option (Nat × (Nat → Int))} {d n q : Nat} {D : Nat → Nat × Nat} {s : Nat → Int} {p : Nat → Nat} {c : Nat → Nat → Int} (hd : 0 ≤ d) (hz : zk Zi) (hq : q + 0 ≤ 400000) (hD : wd n p) (hS : bS s) (hC : bC D c) (hW : wp q g n D p s) (M : MT) (pq_ : Int) (b_pq_ : 0 ≤ pq_ ∧ pq_ ≤ 366) (hp0 : mrc M (c (p 901))) : tt Zi d 39 (0, [some (.inr (.inl 9)), some (.inl pq_)], [], n, D, s, p, c) (fun R H => ∃ (r : Int), R = .inl (some (.inl r)) ∧ H = (n, D, s, p, c) ∧ (-2147483648 ≤ r ∧ r ≤ 2147483647) ∧ (r = M 38 pq_.toNat)) := by
  refine tt_k 7 (S' := (9, [some (.inr (.inl 9)), some (.inl pq_)], [.inl ((4 * pq_) + 2), .inr (.inl (p 901))], n, D, s, p, c)) rfl ?_
  refine tt_ilb (i := ((4 * pq_) + 2)) (m := 1468) (lo := -2147483648) (hi := 2147483647) rfl ((sw_arr (hW).m9 rfl rfl).2) (by omega) hC ((sw_now (hW).m9).2) ?_
  intro v1 b2 hvv1
  show tt Zi d 39 (10, [some (.inr (.inl 9)), some (.inl pq_)], [.inl v1], n, D, s, p, c) _
  have hwv1 : v1 = (M 38 pq_.toNat) := by rw [← hvv1, show (((4 * pq_) + 2)).toNat = 4 * pq_.toNat + 2 by omega, ((hp0) pq_.toNat (by omega)).2.2.1]
  subst hwv1
  show tt Zi d 39 (10, [some (.inr (.inl 9)), some (.inl pq_)], [.inl (M 38 pq_.toNat)], n, D, s, p, c) _
  exact tt_rti rfl rfl ⟨(M 38 pq_.toNat), rfl, rfl, by omega, rfl⟩
set_option maxRecDepth 100000 in
set_option maxHeartbeats 4000000 in
theorem e_lowBits_L38 {g : Nat → Int} {Zi : Nat → Option (Nat × (Nat → Int))} {d n q : Nat} {D : Nat → Nat × Nat} {s : Nat → Int} {p : Nat → Nat} {c : Nat → Nat → Int} {o_1 : Option mi_V} {o_2 : Option mi_V} {Q : mi_Rs → mi_H → Prop} (hd : 0 ≤ d) (hz : zk Zi) (hq : q + 0 ≤ 400001) (hD : wd n p) (hS : bS s) (hC : bC D c) (hW : wp q g n D p s) (n_ : Int) (a_ : Int) (b_n_ : 1 ≤ n_ ∧ n_ ≤ 4097) (b_a_ : 0 ≤ a_ ∧ a_ ≤ 400000000)
  (hK : ∀ (k : Int) (b_k : 0 ≤ k ∧ k ≤ 30) (i0 : k = 0 ∨ n_ * 2 ^ (k - 1).toNat < a_), (a_ ≤ n_ * 2 ^ k.toNat) → tt Zi d 41 (60, [some (.inr (.inl 9)), o_1, o_2, some (.inl n_), some (.inl a_), some (.inl k)], [], n, D, s, p, c) Q) :
  ∀ (m : Nat) (k : Int) (b_k : 0 ≤ k ∧ k ≤ 30) (i0 : k = 0 ∨ n_ * 2 ^ (k - 1).toNat < a_), (30 - k).toNat < m → tt Zi d 41 (38, [some (.inr (.inl 9)), o_1, o_2, some (.inl n_), some (.inl a_), some (.inl k)], [], n, D, s, p, c) Q := by
  intro m
  induction m with
  | zero => intro k b_k i0 hm; exact absurd hm (by omega)
  | succ m ih =>
    intro k b_k i0 hm
    have hp2 : 0 < k → n_ * 2 ^ k.toNat = 2 * (n_ * 2 ^ (k - 1).toNat) := fun hk => by rw [show k.toNat = (k - 1).toNat + 1 by omega, Int.pow_succ, ← Int.mul_assoc, Int.mul_comm]
    have hk0 : k = 0 → n_ * 2 ^ k.toNat = n_ := fun hk => by rw [hk]; exact Int.mul_one n_
    have hpp : 0 ≤ n_ * 2 ^ k.toNat := Int.mul_nonneg (by omega) (Int.le_of_lt (Int.pow_pos (by decide)))
    have hbig : k = 30 → 1073741824 ≤ n_ * 2 ^ k.toNat := fun hk => by rw [hk, show (2 : Int) ^ (30 : Int).toNat = 1073741824 from by decide]; omega
    have hsh := fun hk => mi_shlg (x := n_) (k := k) (by omega) (by omega) hk (by omega)
    refine tt_k 2 (S' := (42, [some (.inr (.inl 9)), o_1, o_2, some (.inl n_), some (.inl a_), some (.inl k)], [.inl 30, .inl k], n, D, s, p, c)) rfl ?_
    refine tb_ge (x := k) (y := 30) rfl rfl (by omega) (fun h1 => ?_) (fun h1 => ?_)
    · show tt Zi d 41 (60, [some (.inr (.inl 9)), o_1, o_2, some (.inl n_), some (.inl a_), some (.inl k)], [], n, D, s, p, c) _
      exact hK k (by omega) i0 (by omega)
    · show tt Zi d 41 (45, [some (.inr (.inl 9)), o_1, o_2, some (.inl n_), some (.inl a_), some (.inl k)], [], n, D, s, p, c) _
      refine tt_k 4 (S' := (51, [some (.inr (.inl 9)), o_1, o_2, some (.inl n_), some (.inl a_), some (.inl k)], [.inl a_, .inl (mi_shl n_ k)], n, D, s, p, c)) rfl ?_
      have e2 := mi_shl_bd n_ k
      refine tb_ge (x := (mi_shl n_ k)) (y := a_) rfl rfl (by omega) (fun h3 => ?_) (fun h3 => ?_)
      · show tt Zi d 41 (60, [some (.inr (.inl 9)), o_1, o_2, some (.inl n_), some (.inl a_), some (.inl k)], [], n, D, s, p, c) _
        exact hK k (by omega) i0 (by omega)
      · show tt Zi d 41 (54, [some (.inr (.inl 9)), o_1, o_2, some (.inl n_), some (.inl a_), some (.inl k)], [], n, D, s, p, c) _
        refine tt_k 2 (S' := (38, [some (.inr (.inl 9)), o_1, o_2, some (.inl n_), some (.inl a_), some (.inl (k + 1))], [], n, D, s, p, c)) rfl ?_
        exact ih (k + 1) (by omega) (Or.inr (by rw [Int.add_sub_cancel]; omega)) (show (30 - (k + 1)).toNat < m by omega)
set_option maxRecDepth 100000 in
set_option maxHeartbeats 4000000 in
theorem e_lowBits {g : Nat → Int} {Zi : Nat → Option (Nat × (Nat → Int))} {d n q : Nat} {D : Nat → Nat × Nat} {s : Nat → Int} {p : Nat → Nat} {c : Nat → Nat → Int} (hd : 0 ≤ d) (hz : zk Zi) (hq : q + 0 ≤ 400000) (hD : wd n p) (hS : bS s) (hC : bC D c) (hW : wp q g n D p s) (t : Int) (Z : Nat → Int) (M : MT) (pq_ : Int) (hm : Int) (b_pq_ : 0 ≤ pq_ ∧ pq_ ≤ 366) (b_hm : 0 ≤ hm ∧ hm ≤ 1) (hp0 : mrc M (c (p 901))) (hp1 : mv Z) (hp2 : pl Z t M) (hp3 : 0 ≤ t ∧ t ≤ 4095) : tt Zi d 41 (0, [some (.inr (.inl 9)), some (.inl pq_), some (.inl hm), none, none, none], [], n, D, s, p, c) (fun R H => ∃ (r : Int), R = .inl (some (.inl r)) ∧ H = (n, D, s, p, c) ∧ (0 ≤ r ∧ r ≤ 30) ∧ (r = ke (M 36 pq_.toNat + (if hm = 1 then M 39 pq_.toNat / 2 else 0)) (M 39 pq_.toNat))) := by
  have hb := pl_bd (s := Z) (c := M) (i := pq_.toNat) hp1 (by omega) (hp2 pq_.toNat (by omega))
  refine tt_k 7 (S' := (9, [some (.inr (.inl 9)), some (.inl pq_), some (.inl hm), none, none, none], [.inl ((4 * pq_) + 3), .inr (.inl (p 901))], n, D, s, p, c)) rfl ?_
  refine tt_ilb (i := ((4 * pq_) + 3)) (m := 1468) (lo := -2147483648) (hi := 2147483647) rfl ((sw_arr (hW).m9 rfl rfl).2) (by omega) hC ((sw_now (hW).m9).2) ?_
  intro v1 b2 hvv1
  show tt Zi d 41 (10, [some (.inr (.inl 9)), some (.inl pq_), some (.inl hm), none, none, none], [.inl v1], n, D, s, p, c) _
  have hwv1 : v1 = (M 39 pq_.toNat) := by rw [← hvv1, show (((4 * pq_) + 3)).toNat = 4 * pq_.toNat + 3 by omega, ((hp0) pq_.toNat (by omega)).2.2.2]
  subst hwv1
  show tt Zi d 41 (10, [some (.inr (.inl 9)), some (.inl pq_), some (.inl hm), none, none, none], [.inl (M 39 pq_.toNat)], n, D, s, p, c) _
  refine tt_k 8 (S' := (20, [some (.inr (.inl 9)), some (.inl pq_), some (.inl hm), some (.inl (M 39 pq_.toNat)), none, none], [.inl ((4 * pq_) + 0), .inr (.inl (p 901))], n, D, s, p, c)) rfl ?_
  refine tt_ilb (i := ((4 * pq_) + 0)) (m := 1468) (lo := -2147483648) (hi := 2147483647) rfl ((sw_arr (hW).m9 rfl rfl).2) (by omega) hC ((sw_now (hW).m9).2) ?_
  intro v3 b4 hvv3
  show tt Zi d 41 (21, [some (.inr (.inl 9)), some (.inl pq_), some (.inl hm), some (.inl (M 39 pq_.toNat)), none, none], [.inl v3], n, D, s, p, c) _
  have hwv3 : v3 = (M 36 pq_.toNat) := by rw [← hvv3, show (((4 * pq_) + 0)).toNat = 4 * pq_.toNat + 0 by omega, ((hp0) pq_.toNat (by omega)).1]
  subst hwv3
  show tt Zi d 41 (21, [some (.inr (.inl 9)), some (.inl pq_), some (.inl hm), some (.inl (M 39 pq_.toNat)), none, none], [.inl (M 36 pq_.toNat)], n, D, s, p, c) _
  refine tt_k 1 (S' := (22, [some (.inr (.inl 9)), some (.inl pq_), some (.inl hm), some (.inl (M 39 pq_.toNat)), none, none], [.inl hm, .inl (M 36 pq_.toNat)], n, D, s, p, c)) rfl ?_
  have K6 : ∀ (j5 : Int) , (-1073741824 ≤ j5 ∧ j5 ≤ 1073741823) → (j5 = (if hm = 1 then M 39 pq_.toNat / 2 else 0)) → (True) → tt Zi d 41 (32, [some (.inr (.inl 9)), some (.inl pq_), some (.inl hm), some (.inl (M 39 pq_.toNat)), none, none], [.inl j5, .inl (M 36 pq_.toNat)], n, D, s, p, c) (fun R H => ∃ (r : Int), R = .inl (some (.inl r)) ∧ H = (n, D, s, p, c) ∧ (0 ≤ r ∧ r ≤ 30) ∧ (r = ke (M 36 pq_.toNat + (if hm = 1 then M 39 pq_.toNat / 2 else 0)) (M 39 pq_.toNat))) := by
    intro j5 b8 b9 hj7
    refine tt_k 2 (S' := (35, [some (.inr (.inl 9)), some (.inl pq_), some (.inl hm), some (.inl (M 39 pq_.toNat)), some (.inl ((M 36 pq_.toNat) + j5)), none], [], n, D, s, p, c)) rfl ?_
    refine tt_k 2 (S' := (38, [some (.inr (.inl 9)), some (.inl pq_), some (.inl hm), some (.inl (M 39 pq_.toNat)), some (.inl ((M 36 pq_.toNat) + j5)), some (.inl 0)], [], n, D, s, p, c)) rfl ?_
    refine e_lowBits_L38 (Zi := Zi) (q := q) (n := n) (D := D) (s := s) (p := p) (c := c) hd hz (by omega) hD hS hC hW  (M 39 pq_.toNat) ((M 36 pq_.toNat) + j5) (by omega) (by omega)   ?_ _ 0 (by omega) (Or.inl rfl) (Nat.lt_succ_self _)
    intro x10 b11 i12 hx13
    show tt Zi d 41 (60, [some (.inr (.inl 9)), some (.inl pq_), some (.inl hm), some (.inl (M 39 pq_.toNat)), some (.inl ((M 36 pq_.toNat) + j5)), some (.inl x10)], [], n, D, s, p, c) _
    replace i12 : x10 = 0 ∨ (M 39 pq_.toNat) * 2 ^ (x10 - 1).toNat < ((M 36 pq_.toNat) + j5) := i12
    replace hx13 : ((M 36 pq_.toNat) + j5) ≤ (M 39 pq_.toNat) * 2 ^ x10.toNat := hx13
    refine tt_k 1 (S' := (62, [some (.inr (.inl 9)), some (.inl pq_), some (.inl hm), some (.inl (M 39 pq_.toNat)), some (.inl ((M 36 pq_.toNat) + j5)), some (.inl x10)], [.inl x10], n, D, s, p, c)) rfl ?_
    exact tt_rti rfl rfl ⟨x10, rfl, rfl, by omega, by show x10 = ke (M 36 pq_.toNat + (if hm = 1 then M 39 pq_.toNat / 2 else 0)) (M 39 pq_.toNat); have h := ke_eq (a := ((M 36 pq_.toNat) + j5)) (n := M 39 pq_.toNat) (r := x10) (by omega) (by omega) hx13 i12; rw [h, b9]⟩
  refine tz_eq (x := hm) rfl rfl (by omega) (fun h14 => ?_) (fun h14 => ?_)
  · show tt Zi d 41 (31, [some (.inr (.inl 9)), some (.inl pq_), some (.inl hm), some (.inl (M 39 pq_.toNat)), none, none], [.inl (M 36 pq_.toNat)], n, D, s, p, c) _
    refine tt_k 1 (S' := (32, [some (.inr (.inl 9)), some (.inl pq_), some (.inl hm), some (.inl (M 39 pq_.toNat)), none, none], [.inl 0, .inl (M 36 pq_.toNat)], n, D, s, p, c)) rfl ?_
    exact K6 0  (by omega) (by first | rw [if_pos (by omega)] | rw [if_neg (by omega)]) (trivial)
  · show tt Zi d 41 (25, [some (.inr (.inl 9)), some (.inl pq_), some (.inl hm), some (.inl (M 39 pq_.toNat)), none, none], [.inl (M 36 pq_.toNat)], n, D, s, p, c) _
    refine tt_k 2 (S' := (27, [some (.inr (.inl 9)), some (.inl pq_), some (.inl hm), some (.inl (M 39 pq_.toNat)), none, none], [.inl 2, .inl (M 39 pq_.toNat), .inl (M 36 pq_.toNat)], n, D, s, p, c)) rfl ?_
    refine tt_dvp (x := (M 39 pq_.toNat)) (y := 2) rfl (by omega) ?_
    show tt Zi d 41 (28, [some (.inr (.inl 9)), some (.inl pq_), some (.inl hm), some (.inl (M 39 pq_.toNat)), none, none], [.inl ((M 39 pq_.toNat) / 2), .inl (M 36 pq_.toNat)], n, D, s, p, c) _
    refine tt_k 1 (S' := (32, [some (.inr (.inl 9)), some (.inl pq_), some (.inl hm), some (.inl (M 39 pq_.toNat)), none, none], [.inl ((M 39 pq_.toNat) / 2), .inl (M 36 pq_.toNat)], n, D, s, p, c)) rfl ?_
    exact K6 ((M 39 pq_.toNat) / 2)  (by omega) (by first | rw [if_pos (by omega)] | rw [if_neg (by omega)]) (trivial)
set_option maxRecDepth 100000 in
set_option maxHeartbeats 4000000 in
theorem e_leansLow {g : Nat → Int} {Zi : Nat → Option (Nat × (Nat → Int))} {d n q : Nat} {D : Nat → Nat × Nat} {s : Nat → Int} {p : Nat → Nat} {c : Nat → Nat → Int} (hd : 0 ≤ d) (hz : zk Zi) (hq : q + 0 ≤ 400000) (hD : wd n p) (hS : bS s) (hC : bC D c) (hW : wp q g n D p s) (t : Int) (Z : Nat → Int) (M : MT) (pq_ : Int) (b_pq_ : 0 ≤ pq_ ∧ pq_ ≤ 366) (hp0 : mrc M (c (p 901))) (hp1 : mv Z) (hp2 : pl Z t M) (hp3 : 0 ≤ t ∧ t ≤ 4095) : tt Zi d 42 (0, [some (.inr (.inl 9)), some (.inl pq_)], [], n, D, s, p, c) (fun R H => ∃ (r : Int), R = .inl (some (.inl r)) ∧ H = (n, D, s, p, c) ∧ (0 ≤ r ∧ r ≤ 1) ∧ (r = 1 ↔ 2 * M 37 pq_.toNat ≤ -(M 39 pq_.toNat))) := by
  have hb := pl_bd (s := Z) (c := M) (i := pq_.toNat) hp1 (by omega) (hp2 pq_.toNat (by omega))
  refine tt_k 8 (S' := (10, [some (.inr (.inl 9)), some (.inl pq_)], [.inl ((4 * pq_) + 1), .inr (.inl (p 901)), .inl 2], n, D, s, p, c)) rfl ?_
  refine tt_ilb (i := ((4 * pq_) + 1)) (m := 1468) (lo := -2147483648) (hi := 2147483647) rfl ((sw_arr (hW).m9 rfl rfl).2) (by omega) hC ((sw_now (hW).m9).2) ?_
  intro v1 b2 hvv1
  show tt Zi d 42 (11, [some (.inr (.inl 9)), some (.inl pq_)], [.inl v1, .inl 2], n, D, s, p, c) _
  have hwv1 : v1 = (M 37 pq_.toNat) := by rw [← hvv1, show (((4 * pq_) + 1)).toNat = 4 * pq_.toNat + 1 by omega, ((hp0) pq_.toNat (by omega)).2.1]
  subst hwv1
  show tt Zi d 42 (11, [some (.inr (.inl 9)), some (.inl pq_)], [.inl (M 37 pq_.toNat), .inl 2], n, D, s, p, c) _
  refine tt_k 8 (S' := (21, [some (.inr (.inl 9)), some (.inl pq_)], [.inl ((4 * pq_) + 3), .inr (.inl (p 901)), .inl (2 * (M 37 pq_.toNat))], n, D, s, p, c)) rfl ?_
  refine tt_ilb (i := ((4 * pq_) + 3)) (m := 1468) (lo := -2147483648) (hi := 2147483647) rfl ((sw_arr (hW).m9 rfl rfl).2) (by omega) hC ((sw_now (hW).m9).2) ?_
  intro v3 b4 hvv3
  show tt Zi d 42 (22, [some (.inr (.inl 9)), some (.inl pq_)], [.inl v3, .inl (2 * (M 37 pq_.toNat))], n, D, s, p, c) _
  have hwv3 : v3 = (M 39 pq_.toNat) := by rw [← hvv3, show (((4 * pq_) + 3)).toNat = 4 * pq_.toNat + 3 by omega, ((hp0) pq_.toNat (by omega)).2.2.2]
  subst hwv3
  show tt Zi d 42 (22, [some (.inr (.inl 9)), some (.inl pq_)], [.inl (M 39 pq_.toNat), .inl (2 * (M 37 pq_.toNat))], n, D, s, p, c) _
  refine tt_k 1 (S' := (23, [some (.inr (.inl 9)), some (.inl pq_)], [.inl (-(M 39 pq_.toNat)), .inl (2 * (M 37 pq_.toNat))], n, D, s, p, c)) rfl ?_
  refine tb_gt (x := (2 * (M 37 pq_.toNat))) (y := (-(M 39 pq_.toNat))) rfl rfl (by omega) (fun h5 => ?_) (fun h5 => ?_)
  · show tt Zi d 42 (30, [some (.inr (.inl 9)), some (.inl pq_)], [], n, D, s, p, c) _
    refine tt_k 1 (S' := (31, [some (.inr (.inl 9)), some (.inl pq_)], [.inl 0], n, D, s, p, c)) rfl ?_
    exact tt_rtb rfl rfl (by omega) ⟨0, rfl, rfl, by omega, by show 0 = 1 ↔ 2 * M 37 pq_.toNat ≤ -(M 39 pq_.toNat); omega⟩
  · show tt Zi d 42 (26, [some (.inr (.inl 9)), some (.inl pq_)], [], n, D, s, p, c) _
    refine tt_k 2 (S' := (31, [some (.inr (.inl 9)), some (.inl pq_)], [.inl 1], n, D, s, p, c)) rfl ?_
    exact tt_rtb rfl rfl (by omega) ⟨1, rfl, rfl, by omega, by show 1 = 1 ↔ 2 * M 37 pq_.toNat ≤ -(M 39 pq_.toNat); omega⟩
set_option maxRecDepth 100000 in
set_option maxHeartbeats 4000000 in
theorem e_isSeldom {g : Nat → Int} {Zi : Nat → Option (Nat × (Nat → Int))} {d n q : Nat} {D : Nat → Nat × Nat} {s : Nat → Int} {p : Nat → Nat} {c : Nat → Nat → Int} (hd : 0 ≤ d) (hz : zk Zi) (hq : q + 0 ≤ 400000) (hD : wd n p) (hS : bS s) (hC : bC D c) (hW : wp q g n D p s) (t : Int) (Z : Nat → Int) (M : MT) (pq_ : Int) (b_pq_ : 0 ≤ pq_ ∧ pq_ ≤ 366) (hp0 : mrc M (c (p 901))) (hp1 : mv Z) (hp2 : pl Z t M) (hp3 : 0 ≤ t ∧ t ≤ 4095) : tt Zi d 68 (0, [some (.inr (.inl 9)), some (.inl pq_)], [], n, D, s, p, c) (fun R H => ∃ (r : Int), R = .inl (some (.inl r)) ∧ H = (n, D, s, p, c) ∧ (0 ≤ r ∧ r ≤ 1) ∧ (r = 1 ↔ 2 * M 37 pq_.toNat < M 39 pq_.toNat)) := by
  have hb := pl_bd (s := Z) (c := M) (i := pq_.toNat) hp1 (by omega) (hp2 pq_.toNat (by omega))
  refine tt_k 8 (S' := (10, [some (.inr (.inl 9)), some (.inl pq_)], [.inl ((4 * pq_) + 1), .inr (.inl (p 901)), .inl 2], n, D, s, p, c)) rfl ?_
  refine tt_ilb (i := ((4 * pq_) + 1)) (m := 1468) (lo := -2147483648) (hi := 2147483647) rfl ((sw_arr (hW).m9 rfl rfl).2) (by omega) hC ((sw_now (hW).m9).2) ?_
  intro v1 b2 hvv1
  show tt Zi d 68 (11, [some (.inr (.inl 9)), some (.inl pq_)], [.inl v1, .inl 2], n, D, s, p, c) _
  have hwv1 : v1 = (M 37 pq_.toNat) := by rw [← hvv1, show (((4 * pq_) + 1)).toNat = 4 * pq_.toNat + 1 by omega, ((hp0) pq_.toNat (by omega)).2.1]
  subst hwv1
  show tt Zi d 68 (11, [some (.inr (.inl 9)), some (.inl pq_)], [.inl (M 37 pq_.toNat), .inl 2], n, D, s, p, c) _
  refine tt_k 8 (S' := (21, [some (.inr (.inl 9)), some (.inl pq_)], [.inl ((4 * pq_) + 3), .inr (.inl (p 901)), .inl (2 * (M 37 pq_.toNat))], n, D, s, p, c)) rfl ?_
  refine tt_ilb (i := ((4 * pq_) + 3)) (m := 1468) (lo := -2147483648) (hi := 2147483647) rfl ((sw_arr (hW).m9 rfl rfl).2) (by omega) hC ((sw_now (hW).m9).2) ?_
  intro v3 b4 hvv3
  show tt Zi d 68 (22, [some (.inr (.inl 9)), some (.inl pq_)], [.inl v3, .inl (2 * (M 37 pq_.toNat))], n, D, s, p, c) _
  have hwv3 : v3 = (M 39 pq_.toNat) := by rw [← hvv3, show (((4 * pq_) + 3)).toNat = 4 * pq_.toNat + 3 by omega, ((hp0) pq_.toNat (by omega)).2.2.2]
  subst hwv3
  show tt Zi d 68 (22, [some (.inr (.inl 9)), some (.inl pq_)], [.inl (M 39 pq_.toNat), .inl (2 * (M 37 pq_.toNat))], n, D, s, p, c) _
  refine tb_ge (x := (2 * (M 37 pq_.toNat))) (y := (M 39 pq_.toNat)) rfl rfl (by omega) (fun h5 => ?_) (fun h5 => ?_)
  · show tt Zi d 68 (29, [some (.inr (.inl 9)), some (.inl pq_)], [], n, D, s, p, c) _
    refine tt_k 1 (S' := (30, [some (.inr (.inl 9)), some (.inl pq_)], [.inl 0], n, D, s, p, c)) rfl ?_
    exact tt_rtb rfl rfl (by omega) ⟨0, rfl, rfl, by omega, by show 0 = 1 ↔ 2 * M 37 pq_.toNat < M 39 pq_.toNat; omega⟩
  · show tt Zi d 68 (25, [some (.inr (.inl 9)), some (.inl pq_)], [], n, D, s, p, c) _
    refine tt_k 2 (S' := (30, [some (.inr (.inl 9)), some (.inl pq_)], [.inl 1], n, D, s, p, c)) rfl ?_
    exact tt_rtb rfl rfl (by omega) ⟨1, rfl, rfl, by omega, by show 1 = 1 ↔ 2 * M 37 pq_.toNat < M 39 pq_.toNat; omega⟩
set_option maxRecDepth 100000 in
set_option maxHeartbeats 4000000 in
theorem e_runBits {g : Nat → Int} {Zi : Nat → Option (Nat × (Nat → Int))} {d n q : Nat} {D : Nat → Nat × Nat} {s : Nat → Int} {p : Nat → Nat} {c : Nat → Nat → Int} (hd : 0 ≤ d) (hz : zk Zi) (hq : q + 0 ≤ 400000) (hD : wd n p) (hS : bS s) (hC : bC D c) (hW : wp q g n D p s)  : tt Zi d 64 (0, [some (.inr (.inl 9))], [], n, D, s, p, c) (fun R H => ∃ (r : Int), R = .inl (some (.inl r)) ∧ H = (n, D, s, p, c) ∧ (0 ≤ r ∧ r ≤ 15) ∧ (r = jj (s 902))) := by
  refine tt_k 3 (S' := (7, [some (.inr (.inl 9))], [.inl (s 902), .inr (.inl (1000000 + 3))], n, D, s, p, c)) rfl ?_
  have b1 : 0 ≤ (s 902) ∧ (s 902) ≤ 31 := hS 902
  obtain ⟨f4, hz5, hz5b⟩ := hz.2.2.2.1
  refine tt_stat (j := 3) (i := (s 902)) rfl hz5 (by omega) ?_
  show tt Zi d 64 (8, [some (.inr (.inl 9))], [.inl ((f4 ((s 902)).toNat))], n, D, s, p, c) _
  generalize hvv2 : f4 ((s 902)).toNat = v2
  have b3 : 0 ≤ v2 ∧ v2 ≤ 15 := by rw [← hvv2]; exact hz5b _
  show tt Zi d 64 (8, [some (.inr (.inl 9))], [.inl v2], n, D, s, p, c) _
  have hst : v2 = jj (s 902) := by rw [← hvv2, hz.2.2.2.2.2.2.2 f4 hz5 _ (by omega)]; congr 1; omega
  exact tt_rti rfl rfl ⟨v2, rfl, rfl, by omega, by show v2 = jj (s 902); exact hst⟩
set_option maxRecDepth 100000 in
set_option maxHeartbeats 4000000 in
theorem e_quicken {g : Nat → Int} {Zi : Nat → Option (Nat × (Nat → Int))} {d n q : Nat} {D : Nat → Nat × Nat} {s : Nat → Int} {p : Nat → Nat} {c : Nat → Nat → Int} (hd : 0 ≤ d) (hz : zk Zi) (hq : q + 0 ≤ 400000) (hD : wd n p) (hS : bS s) (hC : bC D c) (hW : wp q g n D p s)  : tt Zi d 65 (0, [some (.inr (.inl 9))], [], n, D, s, p, c) (fun R H => ∃ (s' : Nat → Int), R = .inl none ∧ H = (n, D, s', p, c) ∧ bS s' ∧ wp q g n D p s' ∧ fr s s' [902] ∧ (s' 902 = min 31 (s 902 + 1))) := by
  refine tt_k 6 (S' := (9, [some (.inr (.inl 9))], [.inl ((s 902) + 1), .inl 31, .inr (.inl 9)], n, D, s, p, c)) rfl ?_
  have b1 : 0 ≤ (s 902) ∧ (s 902) ≤ 31 := hS 902
  refine tt_min (k := 0) (x := 31) (y := ((s 902) + 1)) rfl rfl (Nat.le_of_ble_eq_true rfl) (by omega) ?_
  refine tt_k 1 (S' := (15, [some (.inr (.inl 9))], [], n, D, (us s 902 ((min 31 ((s 902) + 1)))), p, c)) rfl ?_
  exact tt_rtv rfl rfl ⟨(us s 902 ((min 31 ((s 902) + 1)))), rfl, rfl, (bS_us hS (show 0 ≤ (min 31 ((s 902) + 1)) ∧ (min 31 ((s 902) + 1)) ≤ 31 by omega)), (wp_us (by decide) hW), (fr_us (by decide) fr_rf), rfl⟩
set_option maxRecDepth 100000 in
set_option maxHeartbeats 4000000 in
theorem e_slacken {g : Nat → Int} {Zi : Nat → Option (Nat × (Nat → Int))} {d n q : Nat} {D : Nat → Nat × Nat} {s : Nat → Int} {p : Nat → Nat} {c : Nat → Nat → Int} (hd : 0 ≤ d) (hz : zk Zi) (hq : q + 0 ≤ 400000) (hD : wd n p) (hS : bS s) (hC : bC D c) (hW : wp q g n D p s)  : tt Zi d 73 (0, [some (.inr (.inl 9))], [], n, D, s, p, c) (fun R H => ∃ (s' : Nat → Int), R = .inl none ∧ H = (n, D, s', p, c) ∧ bS s' ∧ wp q g n D p s' ∧ fr s s' [902] ∧ (s' 902 = (if 0 < s 902 then s 902 - 1 else 0))) := by
  refine tt_k 6 (S' := (8, [some (.inr (.inl 9))], [.inl ((s 902) - 1), .inl 0, .inr (.inl 9)], n, D, s, p, c)) rfl ?_
  have b1 : 0 ≤ (s 902) ∧ (s 902) ≤ 31 := hS 902
  refine tt_max (k := 0) (x := 0) (y := ((s 902) - 1)) rfl rfl (Nat.le_of_ble_eq_true rfl) (by omega) ?_
  refine tt_k 1 (S' := (14, [some (.inr (.inl 9))], [], n, D, (us s 902 ((max 0 ((s 902) - 1)))), p, c)) rfl ?_
  exact tt_rtv rfl rfl ⟨(us s 902 ((max 0 ((s 902) - 1)))), rfl, rfl, (bS_us hS (show 0 ≤ (max 0 ((s 902) - 1)) ∧ (max 0 ((s 902) - 1)) ≤ 31 by omega)), (wp_us (by decide) hW), (fr_us (by decide) fr_rf), by show ((max 0 ((s 902) - 1))) = (if 0 < s 902 then s 902 - 1 else 0); split <;> omega⟩
set_option maxRecDepth 100000 in
set_option maxHeartbeats 4000000 in
theorem e_count {g : Nat → Int} {Zi : Nat → Option (Nat × (Nat → Int))} {d n q : Nat} {D : Nat → Nat × Nat} {s : Nat → Int} {p : Nat → Nat} {c : Nat → Nat → Int} (hd : 0 ≤ d) (hz : zk Zi) (hq : q + 0 ≤ 400000) (hD : wd n p) (hS : bS s) (hC : bC D c) (hW : wp q g n D p s) (M : MT) (q_ : Nat) (i : Int) (hv_ : Int) (b_i : 0 ≤ i ∧ i ≤ 1464) (b_hv_ : 0 ≤ hv_ ∧ hv_ ≤ 65535) (hp0 : mrc M (c (p 901))) (hp1 : i = 4 * (q_ : Int) ∧ q_ < 367) (hp2 : bdm M q_) : tt Zi d 53 (0, [some (.inr (.inl 9)), some (.inl i), some (.inl hv_)], [], n, D, s, p, c) (fun R H => ∃ (c' : Nat → Nat → Int), R = .inl none ∧ H = (n, D, s, p, c') ∧ bC D c' ∧ fk p c n p c' [901] ∧ (mrc (mCnt hv_ M q_) (c' (p 901)))) := by
  have hbq := hp2
  obtain ⟨hbA, hbB, hbC, hbN⟩ := hbq
  have hs36 := mi_shr1 (x := M 36 q_) (by omega)
  have hs37 := mi_shr1 (x := M 37 q_) (by omega)
  have hs39 := mi_shr1 (x := M 39 q_) (by omega)
  refine tt_k 5 (S' := (7, [some (.inr (.inl 9)), some (.inl i), some (.inl hv_)], [.inl (i + 3), .inr (.inl (p 901))], n, D, s, p, c)) rfl ?_
  refine tt_ilb (i := (i + 3)) (m := 1468) (lo := -2147483648) (hi := 2147483647) rfl ((sw_arr (hW).m9 rfl rfl).2) (by omega) hC ((sw_now (hW).m9).2) ?_
  intro v1 b2 hvv1
  show tt Zi d 53 (8, [some (.inr (.inl 9)), some (.inl i), some (.inl hv_)], [.inl v1], n, D, s, p, c) _
  have hwv1 : v1 = (M 39 q_) := by rw [← hvv1, show ((i + 3)).toNat = 4 * q_ + 3 by omega, ((hp0) q_ (by omega)).2.2.2]
  subst hwv1
  show tt Zi d 53 (8, [some (.inr (.inl 9)), some (.inl i), some (.inl hv_)], [.inl (M 39 q_)], n, D, s, p, c) _
  refine tt_k 1 (S' := (9, [some (.inr (.inl 9)), some (.inl i), some (.inl hv_)], [.inl hv_, .inl (M 39 q_)], n, D, s, p, c)) rfl ?_
  refine tb_ne (x := (M 39 q_)) (y := hv_) rfl rfl (by omega) (fun h3 => ?_) (fun h3 => ?_)
  · show tt Zi d 53 (48, [some (.inr (.inl 9)), some (.inl i), some (.inl hv_)], [], n, D, s, p, c) _
    refine tt_k 6 (S' := (56, [some (.inr (.inl 9)), some (.inl i), some (.inl hv_)], [.inl (i + 3), .inr (.inl (p 901)), .inl (i + 3), .inr (.inl (p 901))], n, D, s, p, c)) rfl ?_
    refine tt_ilb (i := (i + 3)) (m := 1468) (lo := -2147483648) (hi := 2147483647) rfl ((sw_arr (hW).m9 rfl rfl).2) (by omega) hC ((sw_now (hW).m9).2) ?_
    intro v4 b5 hvv4
    show tt Zi d 53 (57, [some (.inr (.inl 9)), some (.inl i), some (.inl hv_)], [.inl v4, .inl (i + 3), .inr (.inl (p 901))], n, D, s, p, c) _
    have hwv4 : v4 = (M 39 q_) := by rw [← hvv4, show ((i + 3)).toNat = 4 * q_ + 3 by omega, ((hp0) q_ (by omega)).2.2.2]
    subst hwv4
    show tt Zi d 53 (57, [some (.inr (.inl 9)), some (.inl i), some (.inl hv_)], [.inl (M 39 q_), .inl (i + 3), .inr (.inl (p 901))], n, D, s, p, c) _
    refine tt_k 2 (S' := (59, [some (.inr (.inl 9)), some (.inl i), some (.inl hv_)], [.inl ((M 39 q_) + 1), .inl (i + 3), .inr (.inl (p 901))], n, D, s, p, c)) rfl ?_
    refine tt_isb (i := (i + 3)) (m := 1468) (lo := -2147483648) (hi := 2147483647) (x := ((M 39 q_) + 1)) rfl ((sw_arr (hW).m9 rfl rfl).2) (by omega) hC ((sw_now (hW).m9).2) (by omega) ?_
    intro c6 hC6 ec6
    show tt Zi d 53 (60, [some (.inr (.inl 9)), some (.inl i), some (.inl hv_)], [], n, D, s, p, c6) _
    have FK7 : fk p c n p c6 [901] := fk_st (k := 901) (fk_rf hD) ec6 (by decide) rfl
    have hm8 : mrc (mU M 39 q_ ((M 39 q_) + 1)) (c6 (p 901)) := by rw [ec6, uc_eq]; exact mrc_s3 hp0 (by omega) (by omega)
    exact tt_rtv rfl rfl ⟨c6, rfl, rfl, hC6, FK7, by show mrc (mCnt hv_ M q_) (c6 (p 901)); have h := hm8; rw [mCnt_n (by omega)]; exact h⟩
  · show tt Zi d 53 (12, [some (.inr (.inl 9)), some (.inl i), some (.inl hv_)], [], n, D, s, p, c) _
    refine tt_k 6 (S' := (20, [some (.inr (.inl 9)), some (.inl i), some (.inl hv_)], [.inl (i + 0), .inr (.inl (p 901)), .inl (i + 0), .inr (.inl (p 901))], n, D, s, p, c)) rfl ?_
    refine tt_ilb (i := (i + 0)) (m := 1468) (lo := -2147483648) (hi := 2147483647) rfl ((sw_arr (hW).m9 rfl rfl).2) (by omega) hC ((sw_now (hW).m9).2) ?_
    intro v9 b10 hvv9
    show tt Zi d 53 (21, [some (.inr (.inl 9)), some (.inl i), some (.inl hv_)], [.inl v9, .inl (i + 0), .inr (.inl (p 901))], n, D, s, p, c) _
    have hwv9 : v9 = (M 36 q_) := by rw [← hvv9, show ((i + 0)).toNat = 4 * q_ + 0 by omega, ((hp0) q_ (by omega)).1]
    subst hwv9
    show tt Zi d 53 (21, [some (.inr (.inl 9)), some (.inl i), some (.inl hv_)], [.inl (M 36 q_), .inl (i + 0), .inr (.inl (p 901))], n, D, s, p, c) _
    refine tt_k 2 (S' := (23, [some (.inr (.inl 9)), some (.inl i), some (.inl hv_)], [.inl (mi_shr (M 36 q_) 1), .inl (i + 0), .inr (.inl (p 901))], n, D, s, p, c)) rfl ?_
    have e11 := mi_shr_bd (M 36 q_) 1
    refine tt_isb (i := (i + 0)) (m := 1468) (lo := -2147483648) (hi := 2147483647) (x := (mi_shr (M 36 q_) 1)) rfl ((sw_arr (hW).m9 rfl rfl).2) (by omega) hC ((sw_now (hW).m9).2) (by omega) ?_
    intro c12 hC12 ec12
    show tt Zi d 53 (24, [some (.inr (.inl 9)), some (.inl i), some (.inl hv_)], [], n, D, s, p, c12) _
    have FK13 : fk p c n p c12 [901] := fk_st (k := 901) (fk_rf hD) ec12 (by decide) rfl
    have hm14 : mrc (mU M 36 q_ (mi_shr (M 36 q_) 1)) (c12 (p 901)) := by rw [ec12, uc_eq]; exact mrc_s0 hp0 (by omega) (by omega)
    refine tt_k 6 (S' := (32, [some (.inr (.inl 9)), some (.inl i), some (.inl hv_)], [.inl (i + 1), .inr (.inl (p 901)), .inl (i + 1), .inr (.inl (p 901))], n, D, s, p, c12)) rfl ?_
    refine tt_ilb (i := (i + 1)) (m := 1468) (lo := -2147483648) (hi := 2147483647) rfl ((sw_arr (hW).m9 rfl rfl).2) (by omega) hC12 ((sw_now (hW).m9).2) ?_
    intro v15 b16 hvv15
    show tt Zi d 53 (33, [some (.inr (.inl 9)), some (.inl i), some (.inl hv_)], [.inl v15, .inl (i + 1), .inr (.inl (p 901))], n, D, s, p, c12) _
    have hwv15 : v15 = (M 37 q_) := by rw [← hvv15, show ((i + 1)).toNat = 4 * q_ + 1 by omega, ((hm14) q_ (by omega)).2.1]; exact ((congrFun (mU_ne (by decide)) _).trans rfl)
    subst hwv15
    show tt Zi d 53 (33, [some (.inr (.inl 9)), some (.inl i), some (.inl hv_)], [.inl (M 37 q_), .inl (i + 1), .inr (.inl (p 901))], n, D, s, p, c12) _
    refine tt_k 2 (S' := (35, [some (.inr (.inl 9)), some (.inl i), some (.inl hv_)], [.inl (mi_shr (M 37 q_) 1), .inl (i + 1), .inr (.inl (p 901))], n, D, s, p, c12)) rfl ?_
    have e17 := mi_shr_bd (M 37 q_) 1
    refine tt_isb (i := (i + 1)) (m := 1468) (lo := -2147483648) (hi := 2147483647) (x := (mi_shr (M 37 q_) 1)) rfl ((sw_arr (hW).m9 rfl rfl).2) (by omega) hC12 ((sw_now (hW).m9).2) (by omega) ?_
    intro c18 hC18 ec18
    show tt Zi d 53 (36, [some (.inr (.inl 9)), some (.inl i), some (.inl hv_)], [], n, D, s, p, c18) _
    have FK19 : fk p c n p c18 [901] := fk_st (k := 901) FK13 ec18 (by decide) rfl
    have hm20 : mrc (mU (mU M 36 q_ (mi_shr (M 36 q_) 1)) 37 q_ (mi_shr (M 37 q_) 1)) (c18 (p 901)) := by rw [ec18, uc_eq]; exact mrc_s1 hm14 (by omega) (by omega)
    refine tt_k 6 (S' := (44, [some (.inr (.inl 9)), some (.inl i), some (.inl hv_)], [.inl (i + 3), .inr (.inl (p 901)), .inl (i + 3), .inr (.inl (p 901))], n, D, s, p, c18)) rfl ?_
    refine tt_ilb (i := (i + 3)) (m := 1468) (lo := -2147483648) (hi := 2147483647) rfl ((sw_arr (hW).m9 rfl rfl).2) (by omega) hC18 ((sw_now (hW).m9).2) ?_
    intro v21 b22 hvv21
    show tt Zi d 53 (45, [some (.inr (.inl 9)), some (.inl i), some (.inl hv_)], [.inl v21, .inl (i + 3), .inr (.inl (p 901))], n, D, s, p, c18) _
    have hwv21 : v21 = (M 39 q_) := by rw [← hvv21, show ((i + 3)).toNat = 4 * q_ + 3 by omega, ((hm20) q_ (by omega)).2.2.2]; exact ((congrFun (mU_ne (by decide)) _).trans ((congrFun (mU_ne (by decide)) _).trans rfl))
    subst hwv21
    show tt Zi d 53 (45, [some (.inr (.inl 9)), some (.inl i), some (.inl hv_)], [.inl (M 39 q_), .inl (i + 3), .inr (.inl (p 901))], n, D, s, p, c18) _
    refine tt_k 2 (S' := (47, [some (.inr (.inl 9)), some (.inl i), some (.inl hv_)], [.inl (mi_shr (M 39 q_) 1), .inl (i + 3), .inr (.inl (p 901))], n, D, s, p, c18)) rfl ?_
    have e23 := mi_shr_bd (M 39 q_) 1
    refine tt_isb (i := (i + 3)) (m := 1468) (lo := -2147483648) (hi := 2147483647) (x := (mi_shr (M 39 q_) 1)) rfl ((sw_arr (hW).m9 rfl rfl).2) (by omega) hC18 ((sw_now (hW).m9).2) (by omega) ?_
    intro c24 hC24 ec24
    show tt Zi d 53 (48, [some (.inr (.inl 9)), some (.inl i), some (.inl hv_)], [], n, D, s, p, c24) _
    have FK25 : fk p c n p c24 [901] := fk_st (k := 901) FK19 ec24 (by decide) rfl
    have hm26 : mrc (mU (mU (mU M 36 q_ (mi_shr (M 36 q_) 1)) 37 q_ (mi_shr (M 37 q_) 1)) 39 q_ (mi_shr (M 39 q_) 1)) (c24 (p 901)) := by rw [ec24, uc_eq]; exact mrc_s3 hm20 (by omega) (by omega)
    refine tt_k 6 (S' := (56, [some (.inr (.inl 9)), some (.inl i), some (.inl hv_)], [.inl (i + 3), .inr (.inl (p 901)), .inl (i + 3), .inr (.inl (p 901))], n, D, s, p, c24)) rfl ?_
    refine tt_ilb (i := (i + 3)) (m := 1468) (lo := -2147483648) (hi := 2147483647) rfl ((sw_arr (hW).m9 rfl rfl).2) (by omega) hC24 ((sw_now (hW).m9).2) ?_
    intro v27 b28 hvv27
    show tt Zi d 53 (57, [some (.inr (.inl 9)), some (.inl i), some (.inl hv_)], [.inl v27, .inl (i + 3), .inr (.inl (p 901))], n, D, s, p, c24) _
    have hwv27 : v27 = (mi_shr (M 39 q_) 1) := by rw [← hvv27, show ((i + 3)).toNat = 4 * q_ + 3 by omega, ((hm26) q_ (by omega)).2.2.2]; exact mU_eq
    subst hwv27
    show tt Zi d 53 (57, [some (.inr (.inl 9)), some (.inl i), some (.inl hv_)], [.inl (mi_shr (M 39 q_) 1), .inl (i + 3), .inr (.inl (p 901))], n, D, s, p, c24) _
    refine tt_k 2 (S' := (59, [some (.inr (.inl 9)), some (.inl i), some (.inl hv_)], [.inl (((mi_shr (M 39 q_) 1) + 1)), .inl (i + 3), .inr (.inl (p 901))], n, D, s, p, c24)) rfl ?_
    refine tt_isb (i := (i + 3)) (m := 1468) (lo := -2147483648) (hi := 2147483647) (x := ((mi_shr (M 39 q_) 1) + 1)) rfl ((sw_arr (hW).m9 rfl rfl).2) (by omega) hC24 ((sw_now (hW).m9).2) (by omega) ?_
    intro c29 hC29 ec29
    show tt Zi d 53 (60, [some (.inr (.inl 9)), some (.inl i), some (.inl hv_)], [], n, D, s, p, c29) _
    have FK30 : fk p c n p c29 [901] := fk_st (k := 901) FK25 ec29 (by decide) rfl
    have hm31 : mrc (mU (mU (mU (mU M 36 q_ (mi_shr (M 36 q_) 1)) 37 q_ (mi_shr (M 37 q_) 1)) 39 q_ (mi_shr (M 39 q_) 1)) 39 q_ (((mi_shr (M 39 q_) 1) + 1))) (c29 (p 901)) := by rw [ec29, uc_eq]; exact mrc_s3 hm26 (by omega) (by omega)
    exact tt_rtv rfl rfl ⟨c29, rfl, rfl, hC29, FK30, by show mrc (mCnt hv_ M q_) (c29 (p 901)); have h := hm31; rw [mU_mU, mi_shr1 (x := (M 36 q_)) (by omega), mi_shr1 (x := (M 37 q_)) (by omega), mi_shr1 (x := (M 39 q_)) (by omega)] at h; rw [mCnt_p (by omega)]; exact h⟩
set_option maxRecDepth 100000 in
set_option maxHeartbeats 4000000 in
theorem e_correct {g : Nat → Int} {Zi : Nat → Option (Nat × (Nat → Int))} {d n q : Nat} {D : Nat → Nat × Nat} {s : Nat → Int} {p : Nat → Nat} {c : Nat → Nat → Int} (hd : 0 ≤ d) (hz : zk Zi) (hq : q + 0 ≤ 400000) (hD : wd n p) (hS : bS s) (hC : bC D c) (hW : wp q g n D p s) (M : MT) (q_ : Nat) (i : Int) (b_i : 0 ≤ i ∧ i ≤ 1464) (hp0 : mrc M (c (p 901))) (hp1 : i = 4 * (q_ : Int) ∧ q_ < 367) (hp2 : bdm M q_) : tt Zi d 54 (0, [some (.inr (.inl 9)), some (.inl i), none], [], n, D, s, p, c) (fun R H => ∃ (c' : Nat → Nat → Int), R = .inl none ∧ H = (n, D, s, p, c') ∧ bC D c' ∧ fk p c n p c' [901] ∧ (mrc (mCor M q_) (c' (p 901)))) := by
  have hbq := hp2
  obtain ⟨hbA, hbB, hbC, hbN⟩ := hbq
  refine tt_k 5 (S' := (7, [some (.inr (.inl 9)), some (.inl i), none], [.inl (i + 3), .inr (.inl (p 901))], n, D, s, p, c)) rfl ?_
  refine tt_ilb (i := (i + 3)) (m := 1468) (lo := -2147483648) (hi := 2147483647) rfl ((sw_arr (hW).m9 rfl rfl).2) (by omega) hC ((sw_now (hW).m9).2) ?_
  intro v1 b2 hvv1
  show tt Zi d 54 (8, [some (.inr (.inl 9)), some (.inl i), none], [.inl v1], n, D, s, p, c) _
  have hwv1 : v1 = (M 39 q_) := by rw [← hvv1, show ((i + 3)).toNat = 4 * q_ + 3 by omega, ((hp0) q_ (by omega)).2.2.2]
  subst hwv1
  show tt Zi d 54 (8, [some (.inr (.inl 9)), some (.inl i), none], [.inl (M 39 q_)], n, D, s, p, c) _
  refine tt_k 6 (S' := (16, [some (.inr (.inl 9)), some (.inl i), some (.inl (M 39 q_))], [.inl (i + 1), .inr (.inl (p 901))], n, D, s, p, c)) rfl ?_
  refine tt_ilb (i := (i + 1)) (m := 1468) (lo := -2147483648) (hi := 2147483647) rfl ((sw_arr (hW).m9 rfl rfl).2) (by omega) hC ((sw_now (hW).m9).2) ?_
  intro v3 b4 hvv3
  show tt Zi d 54 (17, [some (.inr (.inl 9)), some (.inl i), some (.inl (M 39 q_))], [.inl v3], n, D, s, p, c) _
  have hwv3 : v3 = (M 37 q_) := by rw [← hvv3, show ((i + 1)).toNat = 4 * q_ + 1 by omega, ((hp0) q_ (by omega)).2.1]
  subst hwv3
  show tt Zi d 54 (17, [some (.inr (.inl 9)), some (.inl i), some (.inl (M 39 q_))], [.inl (M 37 q_)], n, D, s, p, c) _
  refine tt_k 2 (S' := (19, [some (.inr (.inl 9)), some (.inl i), some (.inl (M 39 q_))], [.inl (-(M 39 q_)), .inl (M 37 q_)], n, D, s, p, c)) rfl ?_
  refine tb_gt (x := (M 37 q_)) (y := (-(M 39 q_))) rfl rfl (by omega) (fun h5 => ?_) (fun h5 => ?_)
  · show tt Zi d 54 (72, [some (.inr (.inl 9)), some (.inl i), some (.inl (M 39 q_))], [], n, D, s, p, c) _
    refine tt_k 5 (S' := (79, [some (.inr (.inl 9)), some (.inl i), some (.inl (M 39 q_))], [.inl (i + 1), .inr (.inl (p 901))], n, D, s, p, c)) rfl ?_
    refine tt_ilb (i := (i + 1)) (m := 1468) (lo := -2147483648) (hi := 2147483647) rfl ((sw_arr (hW).m9 rfl rfl).2) (by omega) hC ((sw_now (hW).m9).2) ?_
    intro v6 b7 hvv6
    show tt Zi d 54 (80, [some (.inr (.inl 9)), some (.inl i), some (.inl (M 39 q_))], [.inl v6], n, D, s, p, c) _
    have hwv6 : v6 = (M 37 q_) := by rw [← hvv6, show ((i + 1)).toNat = 4 * q_ + 1 by omega, ((hp0) q_ (by omega)).2.1]
    subst hwv6
    show tt Zi d 54 (80, [some (.inr (.inl 9)), some (.inl i), some (.inl (M 39 q_))], [.inl (M 37 q_)], n, D, s, p, c) _
    refine tz_le (x := (M 37 q_)) rfl rfl (by omega) (fun h8 => ?_) (fun h8 => ?_)
    · show tt Zi d 54 (128, [some (.inr (.inl 9)), some (.inl i), some (.inl (M 39 q_))], [], n, D, s, p, c) _
      exact tt_rtv rfl rfl ⟨c, rfl, rfl, hC, (fk_rf hD), by show mrc (mCor M q_) (c (p 901)); have h := hp0; rw [mCor_z (by omega) (by omega)]; exact h⟩
    · show tt Zi d 54 (83, [some (.inr (.inl 9)), some (.inl i), some (.inl (M 39 q_))], [], n, D, s, p, c) _
      refine tt_k 11 (S' := (98, [some (.inr (.inl 9)), some (.inl i), some (.inl (M 39 q_))], [.inl (i + 1), .inr (.inl (p 901)), .inl 0, .inl (i + 1), .inr (.inl (p 901))], n, D, s, p, c)) rfl ?_
      refine tt_ilb (i := (i + 1)) (m := 1468) (lo := -2147483648) (hi := 2147483647) rfl ((sw_arr (hW).m9 rfl rfl).2) (by omega) hC ((sw_now (hW).m9).2) ?_
      intro v9 b10 hvv9
      show tt Zi d 54 (99, [some (.inr (.inl 9)), some (.inl i), some (.inl (M 39 q_))], [.inl v9, .inl 0, .inl (i + 1), .inr (.inl (p 901))], n, D, s, p, c) _
      have hwv9 : v9 = (M 37 q_) := by rw [← hvv9, show ((i + 1)).toNat = 4 * q_ + 1 by omega, ((hp0) q_ (by omega)).2.1]
      subst hwv9
      show tt Zi d 54 (99, [some (.inr (.inl 9)), some (.inl i), some (.inl (M 39 q_))], [.inl (M 37 q_), .inl 0, .inl (i + 1), .inr (.inl (p 901))], n, D, s, p, c) _
      refine tt_k 2 (S' := (101, [some (.inr (.inl 9)), some (.inl i), some (.inl (M 39 q_))], [.inl ((M 37 q_) - (M 39 q_)), .inl 0, .inl (i + 1), .inr (.inl (p 901))], n, D, s, p, c)) rfl ?_
      refine tt_min (k := 0) (x := 0) (y := ((M 37 q_) - (M 39 q_))) rfl rfl (Nat.le_of_ble_eq_true rfl) (by omega) ?_
      refine tt_isb (i := (i + 1)) (m := 1468) (lo := -2147483648) (hi := 2147483647) (x := (min 0 ((M 37 q_) - (M 39 q_)))) rfl ((sw_arr (hW).m9 rfl rfl).2) (by omega) hC ((sw_now (hW).m9).2) (by omega) ?_
      intro c11 hC11 ec11
      show tt Zi d 54 (105, [some (.inr (.inl 9)), some (.inl i), some (.inl (M 39 q_))], [], n, D, s, p, c11) _
      have FK12 : fk p c n p c11 [901] := fk_st (k := 901) (fk_rf hD) ec11 (by decide) rfl
      have hm13 : mrc (mU M 37 q_ ((min 0 ((M 37 q_) - (M 39 q_))))) (c11 (p 901)) := by rw [ec11, uc_eq]; exact mrc_s1 hp0 (by omega) (by omega)
      refine tt_k 11 (S' := (121, [some (.inr (.inl 9)), some (.inl i), some (.inl (M 39 q_))], [.inl (i + 2), .inr (.inl (p 901)), .inl 127, .inl (i + 2), .inr (.inl (p 901))], n, D, s, p, c11)) rfl ?_
      refine tt_ilb (i := (i + 2)) (m := 1468) (lo := -2147483648) (hi := 2147483647) rfl ((sw_arr (hW).m9 rfl rfl).2) (by omega) hC11 ((sw_now (hW).m9).2) ?_
      intro v14 b15 hvv14
      show tt Zi d 54 (122, [some (.inr (.inl 9)), some (.inl i), some (.inl (M 39 q_))], [.inl v14, .inl 127, .inl (i + 2), .inr (.inl (p 901))], n, D, s, p, c11) _
      have hwv14 : v14 = (M 38 q_) := by rw [← hvv14, show ((i + 2)).toNat = 4 * q_ + 2 by omega, ((hm13) q_ (by omega)).2.2.1]; exact ((congrFun (mU_ne (by decide)) _).trans rfl)
      subst hwv14
      show tt Zi d 54 (122, [some (.inr (.inl 9)), some (.inl i), some (.inl (M 39 q_))], [.inl (M 38 q_), .inl 127, .inl (i + 2), .inr (.inl (p 901))], n, D, s, p, c11) _
      refine tt_k 2 (S' := (124, [some (.inr (.inl 9)), some (.inl i), some (.inl (M 39 q_))], [.inl ((M 38 q_) + 1), .inl 127, .inl (i + 2), .inr (.inl (p 901))], n, D, s, p, c11)) rfl ?_
      refine tt_min (k := 0) (x := 127) (y := ((M 38 q_) + 1)) rfl rfl (Nat.le_of_ble_eq_true rfl) (by omega) ?_
      refine tt_isb (i := (i + 2)) (m := 1468) (lo := -2147483648) (hi := 2147483647) (x := (min 127 ((M 38 q_) + 1))) rfl ((sw_arr (hW).m9 rfl rfl).2) (by omega) hC11 ((sw_now (hW).m9).2) (by omega) ?_
      intro c16 hC16 ec16
      show tt Zi d 54 (128, [some (.inr (.inl 9)), some (.inl i), some (.inl (M 39 q_))], [], n, D, s, p, c16) _
      have FK17 : fk p c n p c16 [901] := fk_st (k := 901) FK12 ec16 (by decide) rfl
      have hm18 : mrc (mU (mU M 37 q_ ((min 0 ((M 37 q_) - (M 39 q_))))) 38 q_ ((min 127 ((M 38 q_) + 1)))) (c16 (p 901)) := by rw [ec16, uc_eq]; exact mrc_s2 hm13 (by omega) (by omega)
      exact tt_rtv rfl rfl ⟨c16, rfl, rfl, hC16, FK17, by show mrc (mCor M q_) (c16 (p 901)); have h := hm18; rw [mCor_p (by omega) (by omega)]; exact h⟩
  · show tt Zi d 54 (22, [some (.inr (.inl 9)), some (.inl i), some (.inl (M 39 q_))], [], n, D, s, p, c) _
    refine tt_k 13 (S' := (39, [some (.inr (.inl 9)), some (.inl i), some (.inl (M 39 q_))], [.inl (i + 1), .inr (.inl (p 901)), .inl (1 - (M 39 q_)), .inl (i + 1), .inr (.inl (p 901))], n, D, s, p, c)) rfl ?_
    refine tt_ilb (i := (i + 1)) (m := 1468) (lo := -2147483648) (hi := 2147483647) rfl ((sw_arr (hW).m9 rfl rfl).2) (by omega) hC ((sw_now (hW).m9).2) ?_
    intro v19 b20 hvv19
    show tt Zi d 54 (40, [some (.inr (.inl 9)), some (.inl i), some (.inl (M 39 q_))], [.inl v19, .inl (1 - (M 39 q_)), .inl (i + 1), .inr (.inl (p 901))], n, D, s, p, c) _
    have hwv19 : v19 = (M 37 q_) := by rw [← hvv19, show ((i + 1)).toNat = 4 * q_ + 1 by omega, ((hp0) q_ (by omega)).2.1]
    subst hwv19
    show tt Zi d 54 (40, [some (.inr (.inl 9)), some (.inl i), some (.inl (M 39 q_))], [.inl (M 37 q_), .inl (1 - (M 39 q_)), .inl (i + 1), .inr (.inl (p 901))], n, D, s, p, c) _
    refine tt_k 2 (S' := (42, [some (.inr (.inl 9)), some (.inl i), some (.inl (M 39 q_))], [.inl ((M 37 q_) + (M 39 q_)), .inl (1 - (M 39 q_)), .inl (i + 1), .inr (.inl (p 901))], n, D, s, p, c)) rfl ?_
    refine tt_max (k := 0) (x := (1 - (M 39 q_))) (y := ((M 37 q_) + (M 39 q_))) rfl rfl (Nat.le_of_ble_eq_true rfl) (by omega) ?_
    refine tt_isb (i := (i + 1)) (m := 1468) (lo := -2147483648) (hi := 2147483647) (x := (max (1 - (M 39 q_)) ((M 37 q_) + (M 39 q_)))) rfl ((sw_arr (hW).m9 rfl rfl).2) (by omega) hC ((sw_now (hW).m9).2) (by omega) ?_
    intro c21 hC21 ec21
    show tt Zi d 54 (46, [some (.inr (.inl 9)), some (.inl i), some (.inl (M 39 q_))], [], n, D, s, p, c21) _
    have FK22 : fk p c n p c21 [901] := fk_st (k := 901) (fk_rf hD) ec21 (by decide) rfl
    have hm23 : mrc (mU M 37 q_ ((max (1 - (M 39 q_)) ((M 37 q_) + (M 39 q_))))) (c21 (p 901)) := by rw [ec21, uc_eq]; exact mrc_s1 hp0 (by omega) (by omega)
    refine tt_k 11 (S' := (62, [some (.inr (.inl 9)), some (.inl i), some (.inl (M 39 q_))], [.inl (i + 2), .inr (.inl (p 901)), .inl (-128), .inl (i + 2), .inr (.inl (p 901))], n, D, s, p, c21)) rfl ?_
    refine tt_ilb (i := (i + 2)) (m := 1468) (lo := -2147483648) (hi := 2147483647) rfl ((sw_arr (hW).m9 rfl rfl).2) (by omega) hC21 ((sw_now (hW).m9).2) ?_
    intro v24 b25 hvv24
    show tt Zi d 54 (63, [some (.inr (.inl 9)), some (.inl i), some (.inl (M 39 q_))], [.inl v24, .inl (-128), .inl (i + 2), .inr (.inl (p 901))], n, D, s, p, c21) _
    have hwv24 : v24 = (M 38 q_) := by rw [← hvv24, show ((i + 2)).toNat = 4 * q_ + 2 by omega, ((hm23) q_ (by omega)).2.2.1]; exact ((congrFun (mU_ne (by decide)) _).trans rfl)
    subst hwv24
    show tt Zi d 54 (63, [some (.inr (.inl 9)), some (.inl i), some (.inl (M 39 q_))], [.inl (M 38 q_), .inl (-128), .inl (i + 2), .inr (.inl (p 901))], n, D, s, p, c21) _
    refine tt_k 2 (S' := (65, [some (.inr (.inl 9)), some (.inl i), some (.inl (M 39 q_))], [.inl ((M 38 q_) - 1), .inl (-128), .inl (i + 2), .inr (.inl (p 901))], n, D, s, p, c21)) rfl ?_
    refine tt_max (k := 0) (x := (-128)) (y := ((M 38 q_) - 1)) rfl rfl (Nat.le_of_ble_eq_true rfl) (by omega) ?_
    refine tt_isb (i := (i + 2)) (m := 1468) (lo := -2147483648) (hi := 2147483647) (x := (max (-128) ((M 38 q_) - 1))) rfl ((sw_arr (hW).m9 rfl rfl).2) (by omega) hC21 ((sw_now (hW).m9).2) (by omega) ?_
    intro c26 hC26 ec26
    show tt Zi d 54 (69, [some (.inr (.inl 9)), some (.inl i), some (.inl (M 39 q_))], [], n, D, s, p, c26) _
    have FK27 : fk p c n p c26 [901] := fk_st (k := 901) FK22 ec26 (by decide) rfl
    have hm28 : mrc (mU (mU M 37 q_ ((max (1 - (M 39 q_)) ((M 37 q_) + (M 39 q_))))) 38 q_ ((max (-128) ((M 38 q_) - 1)))) (c26 (p 901)) := by rw [ec26, uc_eq]; exact mrc_s2 hm23 (by omega) (by omega)
    refine tt_k 1 (S' := (128, [some (.inr (.inl 9)), some (.inl i), some (.inl (M 39 q_))], [], n, D, s, p, c26)) rfl ?_
    exact tt_rtv rfl rfl ⟨c26, rfl, rfl, hC26, FK27, by show mrc (mCor M q_) (c26 (p 901)); have h := hm28; rw [mCor_n (by omega)]; exact h⟩
set_option maxRecDepth 100000 in
set_option maxHeartbeats 4000000 in
theorem e_learnSample {g : Nat → Int} {Zi : Nat → Option (Nat × (Nat → Int))} {d n q : Nat} {D : Nat → Nat × Nat} {s : Nat → Int} {p : Nat → Nat} {c : Nat → Nat → Int} (hd : 1 ≤ d) (hz : zk Zi) (hq : q + 2 ≤ 400000) (hD : wd n p) (hS : bS s) (hC : bC D c) (hW : wp q g n D p s) (t : Int) (Z : Nat → Int) (M : MT) (pq_ : Int) (e : Int) (b_pq_ : 0 ≤ pq_ ∧ pq_ ≤ 366) (b_e : -65536 ≤ e ∧ e ≤ 65536) (hp0 : mrc M (c (p 901))) (hp1 : zq Z (s 800) (s 801) (s 802) (s 803) (s 804) (s 805) (s 806) (s 807) (s 808) (s 809)) (hp2 : mv Z) (hp3 : pl Z t M) (hp4 : 0 ≤ t ∧ t ≤ 4095) : tt Zi d 52 (0, [some (.inr (.inl 9)), some (.inl pq_), some (.inl e), some (.inr (.inl 8)), none], [], n, D, s, p, c) (fun R H => ∃ (c' : Nat → Nat → Int), R = .inl none ∧ H = (n, D, s, p, c') ∧ bC D c' ∧ fk p c n p c' [901] ∧ (mrc (mLrn Z M pq_.toNat e) (c' (p 901)))) := by
  have hb := pl_bd (s := Z) (c := M) (i := pq_.toNat) hp2 (by omega) (hp3 pq_.toNat (by omega))
  have hzq := hp1
  obtain ⟨z0, z1, z2, z3, z4, z5, z6, z7, z8, z9⟩ := hzq
  have mvx := mv_fx (s := Z) hp2
  have hm := mul_bd (e := e) (st := s 806) (a := 65536) (b := 511) (by omega) (by omega) (by omega) (by omega) (by omega)
  refine tt_k 10 (S' := (14, [some (.inr (.inl 9)), some (.inl pq_), some (.inl e), some (.inr (.inl 8)), some (.inl (4 * pq_))], [.inl ((4 * pq_) + 0), .inr (.inl (p 901)), .inl ((4 * pq_) + 0), .inr (.inl (p 901))], n, D, s, p, c)) rfl ?_
  refine tt_ilb (i := ((4 * pq_) + 0)) (m := 1468) (lo := -2147483648) (hi := 2147483647) rfl ((sw_arr (hW).m9 rfl rfl).2) (by omega) hC ((sw_now (hW).m9).2) ?_
  intro v1 b2 hvv1
  show tt Zi d 52 (15, [some (.inr (.inl 9)), some (.inl pq_), some (.inl e), some (.inr (.inl 8)), some (.inl (4 * pq_))], [.inl v1, .inl ((4 * pq_) + 0), .inr (.inl (p 901))], n, D, s, p, c) _
  have hwv1 : v1 = (M 36 pq_.toNat) := by rw [← hvv1, show (((4 * pq_) + 0)).toNat = 4 * pq_.toNat + 0 by omega, ((hp0) pq_.toNat (by omega)).1]
  subst hwv1
  show tt Zi d 52 (15, [some (.inr (.inl 9)), some (.inl pq_), some (.inl e), some (.inr (.inl 8)), some (.inl (4 * pq_))], [.inl (M 36 pq_.toNat), .inl ((4 * pq_) + 0), .inr (.inl (p 901))], n, D, s, p, c) _
  refine tt_k 1 (S' := (16, [some (.inr (.inl 9)), some (.inl pq_), some (.inl e), some (.inr (.inl 8)), some (.inl (4 * pq_))], [.inl e, .inl (M 36 pq_.toNat), .inl ((4 * pq_) + 0), .inr (.inl (p 901))], n, D, s, p, c)) rfl ?_
  refine tt_abs (k := 0) (x := e) rfl rfl (Nat.le_of_ble_eq_true rfl) (by omega) ?_
  show tt Zi d 52 (19, [some (.inr (.inl 9)), some (.inl pq_), some (.inl e), some (.inr (.inl 8)), some (.inl (4 * pq_))], [.inl (if 0 ≤ e then e else -e), .inl (M 36 pq_.toNat), .inl ((4 * pq_) + 0), .inr (.inl (p 901))], n, D, s, p, c) _
  refine tt_k 1 (S' := (20, [some (.inr (.inl 9)), some (.inl pq_), some (.inl e), some (.inr (.inl 8)), some (.inl (4 * pq_))], [.inl ((M 36 pq_.toNat) + (if 0 ≤ e then e else -e)), .inl ((4 * pq_) + 0), .inr (.inl (p 901))], n, D, s, p, c)) rfl ?_
  refine tt_isb (i := ((4 * pq_) + 0)) (m := 1468) (lo := -2147483648) (hi := 2147483647) (x := ((M 36 pq_.toNat) + (if 0 ≤ e then e else -e))) rfl ((sw_arr (hW).m9 rfl rfl).2) (by omega) hC ((sw_now (hW).m9).2) (by omega) ?_
  intro c3 hC3 ec3
  show tt Zi d 52 (21, [some (.inr (.inl 9)), some (.inl pq_), some (.inl e), some (.inr (.inl 8)), some (.inl (4 * pq_))], [], n, D, s, p, c3) _
  have FK4 : fk p c n p c3 [901] := fk_st (k := 901) (fk_rf hD) ec3 (by decide) rfl
  have hm5 : mrc (mU M 36 pq_.toNat ((M 36 pq_.toNat) + (if 0 ≤ e then e else -e))) (c3 (p 901)) := by rw [ec3, uc_eq]; exact mrc_s0 hp0 (by omega) (by omega)
  refine tt_k 6 (S' := (30, [some (.inr (.inl 9)), some (.inl pq_), some (.inl e), some (.inr (.inl 8)), some (.inl (4 * pq_))], [.inl ((4 * pq_) + 1), .inr (.inl (p 901)), .inl ((4 * pq_) + 1), .inr (.inl (p 901))], n, D, s, p, c3)) rfl ?_
  refine tt_ilb (i := ((4 * pq_) + 1)) (m := 1468) (lo := -2147483648) (hi := 2147483647) rfl ((sw_arr (hW).m9 rfl rfl).2) (by omega) hC3 ((sw_now (hW).m9).2) ?_
  intro v6 b7 hvv6
  show tt Zi d 52 (31, [some (.inr (.inl 9)), some (.inl pq_), some (.inl e), some (.inr (.inl 8)), some (.inl (4 * pq_))], [.inl v6, .inl ((4 * pq_) + 1), .inr (.inl (p 901))], n, D, s, p, c3) _
  have hwv6 : v6 = (M 37 pq_.toNat) := by rw [← hvv6, show (((4 * pq_) + 1)).toNat = 4 * pq_.toNat + 1 by omega, ((hm5) pq_.toNat (by omega)).2.1]; exact ((congrFun (mU_ne (by decide)) _).trans rfl)
  subst hwv6
  show tt Zi d 52 (31, [some (.inr (.inl 9)), some (.inl pq_), some (.inl e), some (.inr (.inl 8)), some (.inl (4 * pq_))], [.inl (M 37 pq_.toNat), .inl ((4 * pq_) + 1), .inr (.inl (p 901))], n, D, s, p, c3) _
  refine tt_k 5 (S' := (38, [some (.inr (.inl 9)), some (.inl pq_), some (.inl e), some (.inr (.inl 8)), some (.inl (4 * pq_))], [.inl (((M 37 pq_.toNat) + (e * (s 806)))), .inl ((4 * pq_) + 1), .inr (.inl (p 901))], n, D, s, p, c3)) rfl ?_
  have b8 : 1 ≤ (s 806) ∧ (s 806) ≤ 511 := hS 806
  have m9 := mul_bd (e := e) (st := (s 806)) (a := 65536) (b := 511) (by omega) (by omega) (by omega) (by omega) (by omega)
  refine tt_isb (i := ((4 * pq_) + 1)) (m := 1468) (lo := -2147483648) (hi := 2147483647) (x := ((M 37 pq_.toNat) + (e * (s 806)))) rfl ((sw_arr (hW).m9 rfl rfl).2) (by omega) hC3 ((sw_now (hW).m9).2) (by omega) ?_
  intro c10 hC10 ec10
  show tt Zi d 52 (39, [some (.inr (.inl 9)), some (.inl pq_), some (.inl e), some (.inr (.inl 8)), some (.inl (4 * pq_))], [], n, D, s, p, c10) _
  have FK11 : fk p c n p c10 [901] := fk_st (k := 901) FK4 ec10 (by decide) rfl
  have hm12 : mrc (mU (mU M 36 pq_.toNat ((M 36 pq_.toNat) + (if 0 ≤ e then e else -e))) 37 pq_.toNat (((M 37 pq_.toNat) + (e * (s 806))))) (c10 (p 901)) := by rw [ec10, uc_eq]; exact mrc_s1 hm5 (by omega) (by omega)
  refine tt_k 4 (S' := (46, [some (.inr (.inl 9)), some (.inl pq_), some (.inl e), some (.inr (.inl 8)), some (.inl (4 * pq_))], [.inl (s 805), .inl (4 * pq_), .inr (.inl 9)], n, D, s, p, c10)) rfl ?_
  have hbd1 : bdm (mU (mU M 36 pq_.toNat ((M 36 pq_.toNat) + (if 0 ≤ e then e else -e))) 37 pq_.toNat (((M 37 pq_.toNat) + (e * (s 806))))) pq_.toNat := ⟨by rw [show (mU (mU M 36 pq_.toNat ((M 36 pq_.toNat) + (if 0 ≤ e then e else -e))) 37 pq_.toNat (((M 37 pq_.toNat) + (e * (s 806))))) 36 pq_.toNat = ((M 36 pq_.toNat) + (if 0 ≤ e then e else -e)) from ((congrFun (mU_ne (by decide)) _).trans mU_eq)]; omega, by rw [show (mU (mU M 36 pq_.toNat ((M 36 pq_.toNat) + (if 0 ≤ e then e else -e))) 37 pq_.toNat (((M 37 pq_.toNat) + (e * (s 806))))) 37 pq_.toNat = (((M 37 pq_.toNat) + (e * (s 806)))) from mU_eq]; omega, by rw [show (mU (mU M 36 pq_.toNat ((M 36 pq_.toNat) + (if 0 ≤ e then e else -e))) 37 pq_.toNat (((M 37 pq_.toNat) + (e * (s 806))))) 38 pq_.toNat = (M 38 pq_.toNat) from ((congrFun (mU_ne (by decide)) _).trans ((congrFun (mU_ne (by decide)) _).trans rfl))]; omega, by rw [show (mU (mU M 36 pq_.toNat ((M 36 pq_.toNat) + (if 0 ≤ e then e else -e))) 37 pq_.toNat (((M 37 pq_.toNat) + (e * (s 806))))) 39 pq_.toNat = (M 39 pq_.toNat) from ((congrFun (mU_ne (by decide)) _).trans ((congrFun (mU_ne (by decide)) _).trans rfl))]; omega⟩
  have b13 : 0 ≤ (s 805) ∧ (s 805) ≤ 65535 := hS 805
  refine tt_cl (by omega) rfl (e_count (Zi := Zi) (q := q) (n := n) (D := D) (s := s) (p := p) (c := c10) (by omega) hz (by omega) FK11.1 hS hC10 hW (mU (mU M 36 pq_.toNat ((M 36 pq_.toNat) + (if 0 ≤ e then e else -e))) 37 pq_.toNat (((M 37 pq_.toNat) + (e * (s 806))))) pq_.toNat (4 * pq_) (s 805) (by omega) (by omega) hm12 (show (4 * pq_) = 4 * (pq_.toNat : Int) ∧ pq_.toNat < 367 by omega) hbd1) ?_
  rintro _ _ ⟨c14, rfl, rfl, hC14, kf15, k16⟩
  have FK17 : fk p c n p c14 [901] := fk_tr FK11 kf15 (by decide)
  show tt Zi d 52 (49, [some (.inr (.inl 9)), some (.inl pq_), some (.inl e), some (.inr (.inl 8)), some (.inl (4 * pq_))], [], n, D, s, p, c14) _
  refine tt_k 2 (S' := (52, [some (.inr (.inl 9)), some (.inl pq_), some (.inl e), some (.inr (.inl 8)), some (.inl (4 * pq_))], [.inl (4 * pq_), .inr (.inl 9)], n, D, s, p, c14)) rfl ?_
  refine tt_cl (by omega) rfl (e_correct (Zi := Zi) (q := q) (n := n) (D := D) (s := s) (p := p) (c := c14) (by omega) hz (by omega) FK17.1 hS hC14 hW (mCnt (s 805) (mU (mU M 36 pq_.toNat ((M 36 pq_.toNat) + (if 0 ≤ e then e else -e))) 37 pq_.toNat (((M 37 pq_.toNat) + (e * (s 806))))) pq_.toNat) pq_.toNat (4 * pq_) (by omega) k16 (show (4 * pq_) = 4 * (pq_.toNat : Int) ∧ pq_.toNat < 367 by omega) (bdm_cnt hbd1 (by rw [show (mU (mU M 36 pq_.toNat ((M 36 pq_.toNat) + (if 0 ≤ e then e else -e))) 37 pq_.toNat (((M 37 pq_.toNat) + (e * (s 806))))) 39 pq_.toNat = M 39 pq_.toNat from ((congrFun (mU_ne (by decide)) _).trans ((congrFun (mU_ne (by decide)) _).trans rfl))]; omega))) ?_
  rintro _ _ ⟨c18, rfl, rfl, hC18, kf19, k20⟩
  have FK21 : fk p c n p c18 [901] := fk_tr FK17 kf19 (by decide)
  show tt Zi d 52 (55, [some (.inr (.inl 9)), some (.inl pq_), some (.inl e), some (.inr (.inl 8)), some (.inl (4 * pq_))], [], n, D, s, p, c18) _
  exact tt_rtv rfl rfl ⟨c18, rfl, rfl, hC18, FK21, by show mrc (mLrn Z M pq_.toNat e) (c18 (p 901)); have h := k20; rw [z5, z6] at h; exact h⟩
set_option maxRecDepth 100000 in
set_option maxHeartbeats 4000000 in
theorem e_learnStop {g : Nat → Int} {Zi : Nat → Option (Nat × (Nat → Int))} {d n q : Nat} {D : Nat → Nat × Nat} {s : Nat → Int} {p : Nat → Nat} {c : Nat → Nat → Int} (hd : 1 ≤ d) (hz : zk Zi) (hq : q + 2 ≤ 400000) (hD : wd n p) (hS : bS s) (hC : bC D c) (hW : wp q g n D p s) (t : Int) (Z : Nat → Int) (M : MT) (pq_ : Int) (e : Int) (mo : Int) (hv_ : Int) (b_pq_ : 0 ≤ pq_ ∧ pq_ ≤ 366) (b_e : -65536 ≤ e ∧ e ≤ 65536) (b_mo : 0 ≤ mo ∧ mo ≤ 65536) (b_hv_ : 0 ≤ hv_ ∧ hv_ ≤ 65535) (hp0 : mrc M (c (p 901))) (hp1 : mv Z) (hp2 : pl Z t M) (hp3 : 0 ≤ t ∧ t ≤ 4095) (hp4 : hv_ = Z 3022) : tt Zi d 72 (0, [some (.inr (.inl 9)), some (.inl pq_), some (.inl e), some (.inl mo), some (.inl hv_), none], [], n, D, s, p, c) (fun R H => ∃ (c' : Nat → Nat → Int), R = .inl none ∧ H = (n, D, s, p, c') ∧ bC D c' ∧ fk p c n p c' [901] ∧ (mrc (mStp Z M pq_.toNat e mo) (c' (p 901)))) := by
  have hb := pl_bd (s := Z) (c := M) (i := pq_.toNat) hp1 (by omega) (hp2 pq_.toNat (by omega))
  refine tt_k 10 (S' := (14, [some (.inr (.inl 9)), some (.inl pq_), some (.inl e), some (.inl mo), some (.inl hv_), some (.inl (4 * pq_))], [.inl ((4 * pq_) + 0), .inr (.inl (p 901)), .inl ((4 * pq_) + 0), .inr (.inl (p 901))], n, D, s, p, c)) rfl ?_
  refine tt_ilb (i := ((4 * pq_) + 0)) (m := 1468) (lo := -2147483648) (hi := 2147483647) rfl ((sw_arr (hW).m9 rfl rfl).2) (by omega) hC ((sw_now (hW).m9).2) ?_
  intro v1 b2 hvv1
  show tt Zi d 72 (15, [some (.inr (.inl 9)), some (.inl pq_), some (.inl e), some (.inl mo), some (.inl hv_), some (.inl (4 * pq_))], [.inl v1, .inl ((4 * pq_) + 0), .inr (.inl (p 901))], n, D, s, p, c) _
  have hwv1 : v1 = (M 36 pq_.toNat) := by rw [← hvv1, show (((4 * pq_) + 0)).toNat = 4 * pq_.toNat + 0 by omega, ((hp0) pq_.toNat (by omega)).1]
  subst hwv1
  show tt Zi d 72 (15, [some (.inr (.inl 9)), some (.inl pq_), some (.inl e), some (.inl mo), some (.inl hv_), some (.inl (4 * pq_))], [.inl (M 36 pq_.toNat), .inl ((4 * pq_) + 0), .inr (.inl (p 901))], n, D, s, p, c) _
  refine tt_k 2 (S' := (17, [some (.inr (.inl 9)), some (.inl pq_), some (.inl e), some (.inl mo), some (.inl hv_), some (.inl (4 * pq_))], [.inl ((M 36 pq_.toNat) + mo), .inl ((4 * pq_) + 0), .inr (.inl (p 901))], n, D, s, p, c)) rfl ?_
  refine tt_isb (i := ((4 * pq_) + 0)) (m := 1468) (lo := -2147483648) (hi := 2147483647) (x := ((M 36 pq_.toNat) + mo)) rfl ((sw_arr (hW).m9 rfl rfl).2) (by omega) hC ((sw_now (hW).m9).2) (by omega) ?_
  intro c3 hC3 ec3
  show tt Zi d 72 (18, [some (.inr (.inl 9)), some (.inl pq_), some (.inl e), some (.inl mo), some (.inl hv_), some (.inl (4 * pq_))], [], n, D, s, p, c3) _
  have FK4 : fk p c n p c3 [901] := fk_st (k := 901) (fk_rf hD) ec3 (by decide) rfl
  have hm5 : mrc (mU M 36 pq_.toNat ((M 36 pq_.toNat) + mo)) (c3 (p 901)) := by rw [ec3, uc_eq]; exact mrc_s0 hp0 (by omega) (by omega)
  refine tt_k 6 (S' := (27, [some (.inr (.inl 9)), some (.inl pq_), some (.inl e), some (.inl mo), some (.inl hv_), some (.inl (4 * pq_))], [.inl ((4 * pq_) + 1), .inr (.inl (p 901)), .inl ((4 * pq_) + 1), .inr (.inl (p 901))], n, D, s, p, c3)) rfl ?_
  refine tt_ilb (i := ((4 * pq_) + 1)) (m := 1468) (lo := -2147483648) (hi := 2147483647) rfl ((sw_arr (hW).m9 rfl rfl).2) (by omega) hC3 ((sw_now (hW).m9).2) ?_
  intro v6 b7 hvv6
  show tt Zi d 72 (28, [some (.inr (.inl 9)), some (.inl pq_), some (.inl e), some (.inl mo), some (.inl hv_), some (.inl (4 * pq_))], [.inl v6, .inl ((4 * pq_) + 1), .inr (.inl (p 901))], n, D, s, p, c3) _
  have hwv6 : v6 = (M 37 pq_.toNat) := by rw [← hvv6, show (((4 * pq_) + 1)).toNat = 4 * pq_.toNat + 1 by omega, ((hm5) pq_.toNat (by omega)).2.1]; exact ((congrFun (mU_ne (by decide)) _).trans rfl)
  subst hwv6
  show tt Zi d 72 (28, [some (.inr (.inl 9)), some (.inl pq_), some (.inl e), some (.inl mo), some (.inl hv_), some (.inl (4 * pq_))], [.inl (M 37 pq_.toNat), .inl ((4 * pq_) + 1), .inr (.inl (p 901))], n, D, s, p, c3) _
  refine tt_k 1 (S' := (29, [some (.inr (.inl 9)), some (.inl pq_), some (.inl e), some (.inl mo), some (.inl hv_), some (.inl (4 * pq_))], [.inl e, .inl (M 37 pq_.toNat), .inl ((4 * pq_) + 1), .inr (.inl (p 901))], n, D, s, p, c3)) rfl ?_
  have K9 : ∀ (j8 : Int) , (0 ≤ j8 ∧ j8 ≤ 1) → (j8 = (if e < 0 then 1 else 0)) → (True) → tt Zi d 72 (37, [some (.inr (.inl 9)), some (.inl pq_), some (.inl e), some (.inl mo), some (.inl hv_), some (.inl (4 * pq_))], [.inl j8, .inl (M 37 pq_.toNat), .inl ((4 * pq_) + 1), .inr (.inl (p 901))], n, D, s, p, c3) (fun R H => ∃ (c' : Nat → Nat → Int), R = .inl none ∧ H = (n, D, s, p, c') ∧ bC D c' ∧ fk p c n p c' [901] ∧ (mrc (mStp Z M pq_.toNat e mo) (c' (p 901)))) := by
    intro j8 b11 b12 hj10
    refine tt_k 1 (S' := (38, [some (.inr (.inl 9)), some (.inl pq_), some (.inl e), some (.inl mo), some (.inl hv_), some (.inl (4 * pq_))], [.inl ((M 37 pq_.toNat) + j8), .inl ((4 * pq_) + 1), .inr (.inl (p 901))], n, D, s, p, c3)) rfl ?_
    refine tt_isb (i := ((4 * pq_) + 1)) (m := 1468) (lo := -2147483648) (hi := 2147483647) (x := ((M 37 pq_.toNat) + j8)) rfl ((sw_arr (hW).m9 rfl rfl).2) (by omega) hC3 ((sw_now (hW).m9).2) (by omega) ?_
    intro c13 hC13 ec13
    show tt Zi d 72 (39, [some (.inr (.inl 9)), some (.inl pq_), some (.inl e), some (.inl mo), some (.inl hv_), some (.inl (4 * pq_))], [], n, D, s, p, c13) _
    have FK14 : fk p c n p c13 [901] := fk_st (k := 901) FK4 ec13 (by decide) rfl
    have hm15 : mrc (mU (mU M 36 pq_.toNat ((M 36 pq_.toNat) + mo)) 37 pq_.toNat ((M 37 pq_.toNat) + j8)) (c13 (p 901)) := by rw [ec13, uc_eq]; exact mrc_s1 hm5 (by omega) (by omega)
    refine tt_k 3 (S' := (44, [some (.inr (.inl 9)), some (.inl pq_), some (.inl e), some (.inl mo), some (.inl hv_), some (.inl (4 * pq_))], [.inl hv_, .inl (4 * pq_), .inr (.inl 9)], n, D, s, p, c13)) rfl ?_
    have hbd1 : bdm (mU (mU M 36 pq_.toNat ((M 36 pq_.toNat) + mo)) 37 pq_.toNat ((M 37 pq_.toNat) + j8)) pq_.toNat := ⟨by rw [show (mU (mU M 36 pq_.toNat ((M 36 pq_.toNat) + mo)) 37 pq_.toNat ((M 37 pq_.toNat) + j8)) 36 pq_.toNat = ((M 36 pq_.toNat) + mo) from ((congrFun (mU_ne (by decide)) _).trans mU_eq)]; omega, by rw [show (mU (mU M 36 pq_.toNat ((M 36 pq_.toNat) + mo)) 37 pq_.toNat ((M 37 pq_.toNat) + j8)) 37 pq_.toNat = ((M 37 pq_.toNat) + j8) from mU_eq]; omega, by rw [show (mU (mU M 36 pq_.toNat ((M 36 pq_.toNat) + mo)) 37 pq_.toNat ((M 37 pq_.toNat) + j8)) 38 pq_.toNat = (M 38 pq_.toNat) from ((congrFun (mU_ne (by decide)) _).trans ((congrFun (mU_ne (by decide)) _).trans rfl))]; omega, by rw [show (mU (mU M 36 pq_.toNat ((M 36 pq_.toNat) + mo)) 37 pq_.toNat ((M 37 pq_.toNat) + j8)) 39 pq_.toNat = (M 39 pq_.toNat) from ((congrFun (mU_ne (by decide)) _).trans ((congrFun (mU_ne (by decide)) _).trans rfl))]; omega⟩
    refine tt_cl (by omega) rfl (e_count (Zi := Zi) (q := q) (n := n) (D := D) (s := s) (p := p) (c := c13) (by omega) hz (by omega) FK14.1 hS hC13 hW (mU (mU M 36 pq_.toNat ((M 36 pq_.toNat) + mo)) 37 pq_.toNat ((M 37 pq_.toNat) + j8)) pq_.toNat (4 * pq_) hv_ (by omega) (by omega) hm15 (show (4 * pq_) = 4 * (pq_.toNat : Int) ∧ pq_.toNat < 367 by omega) hbd1) ?_
    rintro _ _ ⟨c16, rfl, rfl, hC16, kf17, k18⟩
    have FK19 : fk p c n p c16 [901] := fk_tr FK14 kf17 (by decide)
    show tt Zi d 72 (47, [some (.inr (.inl 9)), some (.inl pq_), some (.inl e), some (.inl mo), some (.inl hv_), some (.inl (4 * pq_))], [], n, D, s, p, c16) _
    exact tt_rtv rfl rfl ⟨c16, rfl, rfl, hC16, FK19, by show mrc (mStp Z M pq_.toNat e mo) (c16 (p 901)); have h := k18; rw [b12, hp4] at h; exact h⟩
  refine tz_ge (x := e) rfl rfl (by omega) (fun h20 => ?_) (fun h20 => ?_)
  · show tt Zi d 72 (36, [some (.inr (.inl 9)), some (.inl pq_), some (.inl e), some (.inl mo), some (.inl hv_), some (.inl (4 * pq_))], [.inl (M 37 pq_.toNat), .inl ((4 * pq_) + 1), .inr (.inl (p 901))], n, D, s, p, c3) _
    refine tt_k 1 (S' := (37, [some (.inr (.inl 9)), some (.inl pq_), some (.inl e), some (.inl mo), some (.inl hv_), some (.inl (4 * pq_))], [.inl 0, .inl (M 37 pq_.toNat), .inl ((4 * pq_) + 1), .inr (.inl (p 901))], n, D, s, p, c3)) rfl ?_
    exact K9 0  (by omega) (by first | rw [if_pos (by omega)] | rw [if_neg (by omega)]) (trivial)
  · show tt Zi d 72 (32, [some (.inr (.inl 9)), some (.inl pq_), some (.inl e), some (.inl mo), some (.inl hv_), some (.inl (4 * pq_))], [.inl (M 37 pq_.toNat), .inl ((4 * pq_) + 1), .inr (.inl (p 901))], n, D, s, p, c3) _
    refine tt_k 2 (S' := (37, [some (.inr (.inl 9)), some (.inl pq_), some (.inl e), some (.inl mo), some (.inl hv_), some (.inl (4 * pq_))], [.inl 1, .inl (M 37 pq_.toNat), .inl ((4 * pq_) + 1), .inr (.inl (p 901))], n, D, s, p, c3)) rfl ?_
    exact K9 1  (by omega) (by first | rw [if_pos (by omega)] | rw [if_neg (by omega)]) (trivial)
