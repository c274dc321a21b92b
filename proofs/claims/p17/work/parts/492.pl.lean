/-! a plane begins; what its samples may cost; division by any number -/
theorem pl_mono {s : Nat → Int} {t u : Int} {c : Nat → Nat → Int} (h : pl s t c) (htu : t ≤ u) : pl s u c := by
  intro i hi
  have h7 := h i hi
  unfold pli at h7 ⊢
  obtain ⟨p1, p2, p3, p4, p5, p6, p7, p8, p9⟩ := h7
  exact ⟨p1, p2, p3, by omega, p5, by omega, p7, p8, p9⟩
theorem a0_bd {r : Int} {q : Nat} (h1 : 1 ≤ q) (h2 : q ≤ 16) (h3 : r ≤ 2 ^ q) (h4 : 2 ^ (q - 1) < r) : 512 ≤ max 2 ((r + 32) / 64) * 2 ^ (16 - q) ∧ max 2 ((r + 32) / 64) ≤ 2 ^ q := by
  have hq : q = 1 ∨ q = 2 ∨ q = 3 ∨ q = 4 ∨ q = 5 ∨ q = 6 ∨ q = 7 ∨ q = 8 ∨ q = 9 ∨ q = 10 ∨ q = 11 ∨ q = 12 ∨ q = 13 ∨ q = 14 ∨ q = 15 ∨ q = 16 := by omega
  rcases hq with rfl | rfl | rfl | rfl | rfl | rfl | rfl | rfl | rfl | rfl | rfl | rfl | rfl | rfl | rfl | rfl <;> simp only [Nat.reduceSub, Int.reducePow] at h3 h4 ⊢ <;> omega
theorem qr_b1 {g : Nat} {A : Int} (hA : 512 ≤ A) : qr_F g A 1 ≤ 2621440 := by
  refine qr_m_le (by decide) 13 (fun j h1 h2 => ?_)
  have hjs : j = 0 ∨ j = 1 ∨ j = 2 ∨ j = 3 ∨ j = 4 ∨ j = 5 ∨ j = 6 ∨ j = 7 ∨ j = 8 ∨ j = 9 ∨ j = 10 ∨ j = 11 ∨ j = 12 := by omega
  rcases hjs with rfl | rfl | rfl | rfl | rfl | rfl | rfl | rfl | rfl | rfl | rfl | rfl | rfl
  · show 851968 * 1 + 5963776 - 131072 * A ≤ 2621440; omega
  · show 786432 * 1 + 5505024 - 65536 * A ≤ 2621440; omega
  · show 720896 * 1 + 5046272 - 32768 * A ≤ 2621440; omega
  · show 655360 * 1 + 4587520 - 16384 * A ≤ 2621440; omega
  · show 589824 * 1 + 4128768 - 8192 * A ≤ 2621440; omega
  · show 524288 * 1 + 3670016 - 4096 * A ≤ 2621440; omega
  · show 458752 * 1 + 3211264 - 2048 * A ≤ 2621440; omega
  · show 393216 * 1 + 2752512 - 1024 * A ≤ 2621440; omega
  · show 327680 * 1 + 2293760 - 512 * A ≤ 2621440; omega
  · show 262144 * 1 + 1835008 - 256 * A ≤ 2621440; omega
  · show 196608 * 1 + 1376256 - 128 * A ≤ 2621440; omega
  · show 131072 * 1 + 917504 - 64 * A ≤ 2621440; omega
  · show 65536 * 1 + 458752 - 32 * A ≤ 2621440; omega
theorem qs_b1 {g : Nat} {A : Int} (hA : 512 ≤ A) : qs_F g A 1 ≤ 2781184 := by
  refine qs_m_le (by decide) 13 (fun j h1 h2 => ?_)
  have hjs : j = 0 ∨ j = 1 ∨ j = 2 ∨ j = 3 ∨ j = 4 ∨ j = 5 ∨ j = 6 ∨ j = 7 ∨ j = 8 ∨ j = 9 ∨ j = 10 ∨ j = 11 ∨ j = 12 := by omega
  rcases hjs with rfl | rfl | rfl | rfl | rfl | rfl | rfl | rfl | rfl | rfl | rfl | rfl | rfl
  · show 798720 * 1 + 6190080 - 122880 * A ≤ 2781184; omega
  · show 737280 * 1 + 5713920 - 61440 * A ≤ 2781184; omega
  · show 675840 * 1 + 5237760 - 30720 * A ≤ 2781184; omega
  · show 614400 * 1 + 4761600 - 15360 * A ≤ 2781184; omega
  · show 552960 * 1 + 4285440 - 7680 * A ≤ 2781184; omega
  · show 491520 * 1 + 3809280 - 3840 * A ≤ 2781184; omega
  · show 430080 * 1 + 3333120 - 1920 * A ≤ 2781184; omega
  · show 368640 * 1 + 2856960 - 960 * A ≤ 2781184; omega
  · show 307200 * 1 + 2380800 - 480 * A ≤ 2781184; omega
  · show 245760 * 1 + 1904640 - 240 * A ≤ 2781184; omega
  · show 184320 * 1 + 1428480 - 120 * A ≤ 2781184; omega
  · show 122880 * 1 + 952320 - 60 * A ≤ 2781184; omega
  · show 61440 * 1 + 476160 - 30 * A ≤ 2781184; omega
theorem cb_bd {s : Nat → Int} : 1150976 ≤ cb s ∧ cb s ≤ 1220608 := by
  unfold cb
  split <;> decide
theorem pl_begin {s : Nat → Int} {c : Nat → Nat → Int} (h : mv s) (h36 : ∀ i : Nat, (i : Int) < 367 → c 36 i = max 2 ((s 3024 + 32) / 64)) (h37 : ∀ i : Nat, (i : Int) < 367 → c 37 i = 0) (h38 : ∀ i : Nat, (i : Int) < 367 → c 38 i = 0) (h39 : ∀ i : Nat, (i : Int) < 367 → c 39 i = 1) : pl s 0 c ∧ pot s c + 4096 * cb s ≤ 5676785664 := by
  obtain ⟨q1, q2, q3, q4, q5⟩ := mv_q h
  have ha := a0_bd q1 q2 q4 q5
  constructor
  · intro i hi
    unfold pli
    rw [h36 i (by omega), h37 i (by omega), h38 i (by omega), h39 i (by omega)]
    exact ⟨by omega, by omega, by omega, by omega, by omega, by omega, by omega, by omega, fun _ => ha.1⟩
  · unfold pot cb
    split
    · decide
    · have hr : ∀ j, j < 365 → potf s c j ≤ 2621440 := by
        intro j hj
        unfold potf
        rw [if_pos hj, h36 j (by omega), h39 j (by omega)]
        exact qr_b1 ha.1
      have hs : ∀ j, 365 ≤ j → j < 367 → potf s c j ≤ 2781184 := by
        intro j h1 h2
        unfold potf
        rw [if_neg (by omega), h36 j (by omega), h39 j (by omega)]
        exact qs_b1 ha.1
      have h1 := sm_le (f := potf s c) 365 hr
      have h2 := hs 365 (by decide) (by decide)
      have h3 := hs 366 (by decide) (by decide)
      have e : sm (potf s c) 367 = sm (potf s c) 365 + potf s c 365 + potf s c 366 := rfl
      rw [e]
      omega
def bt (C B u : Int) : Int := B + u * C
theorem bt_s {C B u : Int} : bt C B (u + 1) = bt C B u + C := by
  unfold bt
  rw [Int.add_mul, Int.one_mul]
  omega
theorem bt_mono {C B u v : Int} (hC : 0 ≤ C) (h : u ≤ v) : bt C B u ≤ bt C B v := by
  unfold bt
  have := Int.mul_le_mul_of_nonneg_right h hC
  omega
theorem bt_ge {C B u v : Int} (hC : 0 ≤ C) (h : u + 1 ≤ v) : bt C B u + C ≤ bt C B v := by
  rw [← bt_s]
  exact bt_mono hC h
theorem shl7 : mi_shl 1 7 = 128 := mi_shl1 7 (by decide)
theorem jj_le6 {p : Int} (h : 0 ≤ p ∧ p ≤ 22) (hj : jj p ≤ 6) : p ≤ 21 := by
  unfold jj at hj
  split at hj
  · omega
  · split at hj <;> omega
theorem tt_dvn {Zi : Nat → Option (Nat × (Nat → Int))} {d M pc len : Nat} {ls : List (Option mi_V)} {st : List mi_V} {H : mi_H} {Q : mi_Rs → mi_H → Prop} {x y : Int} (hk : mm_kT M pc = some (.idiv, len)) (hx : -2147483648 ≤ x ∧ x ≤ 2147483647) (hy : -2147483648 ≤ y ∧ y ≤ 2147483647) (h0 : y ≠ 0) (g : tt Zi d M (pc + 1, ls, .inl (x.tdiv y) :: st, H) Q) : tt Zi d M (pc, ls, .inl y :: .inl x :: st, H) Q := by
  obtain ⟨k, r, w, h1, h2⟩ := g
  refine ⟨k + 1, r, w, ?_, h2⟩
  have hy0 : ¬ Int32.ofInt y = 0 := by
    intro e
    have e2 := congrArg Int32.toInt e
    rw [mi_ti hy] at e2
    have : (0 : Int32).toInt = 0 := rfl
    omega
  have e4 : Int32.ofInt (x.tdiv y) = Int32.ofInt x / Int32.ofInt y := by
    refine Int32.ofInt_tdiv ?_ ?_ ?_ ?_
    · show (-2147483648 : Int) ≤ x; omega
    · show x ≤ (2147483647 : Int); omega
    · show (-2147483648 : Int) ≤ y; omega
    · show y ≤ (2147483647 : Int); omega
  have hp : mm_pure .idiv pc (mi_cl ls) (mi_cs (.inl y :: .inl x :: st)) = some (pc + 1, mi_cl ls, .int (Int32.ofInt (x.tdiv y)) :: mi_cs st) := by
    show (if Int32.ofInt y = 0 then none else some (pc + 1, mi_cl ls, Value.int (Int32.ofInt x / Int32.ofInt y) :: mi_cs st)) = _
    rw [if_neg hy0, e4]
  have ha : mm_act (mi_cz Zi) M (mi_cS (pc, ls, .inl y :: .inl x :: st, H)) = some (.inl (mi_cS (pc + 1, ls, .inl (x.tdiv y) :: st, H))) := by
    apply mm_actF_le
    unfold mm_actF
    show (match mm_kT M pc with | some (i, _) => _ | none => none) = _
    rw [hk]
    show (match mm_pure .idiv pc (mi_cl ls) (mi_cs (.inl y :: .inl x :: st)) with | some q => some (Sum.inl (q.1, q.2.1, q.2.2, mi_mk H)) | none => none : Option mm_Ac) = _
    rw [hp]
    rfl
  rw [mm_ex]
  simp only [ha]
  exact h1
