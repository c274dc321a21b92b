/-! the thresholds of a near that may be, on the first canvas -/
def mm_fb (nr : Int32) : Bool :=
  !mm_cmp .le (mm_pl (3 + (3 * nr)) (nr + 1)) nr &&
  !mm_cmp .lt (mm_pl (7 + (5 * nr)) (mm_pl (3 + (3 * nr)) (nr + 1))) (mm_pl (3 + (3 * nr)) (nr + 1)) &&
  !mm_cmp .lt (mm_pl (21 + (7 * nr)) (mm_pl (7 + (5 * nr)) (mm_pl (3 + (3 * nr)) (nr + 1)))) (mm_pl (7 + (5 * nr)) (mm_pl (3 + (3 * nr)) (nr + 1))) &&
  mm_cmp .le (mm_pl (21 + (7 * nr)) (mm_pl (7 + (5 * nr)) (mm_pl (3 + (3 * nr)) (nr + 1)))) 255 &&
  !mm_cmp .gt (nr + 1) (mm_pl (3 + (3 * nr)) (nr + 1)) &&
  !mm_cmp .gt (mm_pl (3 + (3 * nr)) (nr + 1)) (mm_pl (7 + (5 * nr)) (mm_pl (3 + (3 * nr)) (nr + 1))) &&
  !mm_cmp .gt (mm_pl (7 + (5 * nr)) (mm_pl (3 + (3 * nr)) (nr + 1))) (mm_pl (21 + (7 * nr)) (mm_pl (7 + (5 * nr)) (mm_pl (3 + (3 * nr)) (nr + 1)))) &&
  !mm_cmp .gt (mm_pl (21 + (7 * nr)) (mm_pl (7 + (5 * nr)) (mm_pl (3 + (3 * nr)) (nr + 1)))) 255
theorem mm_fb_ok : ∀ n : Nat, n < 128 → mm_fb (Int32.ofNat n) = true := by decide +kernel
theorem mm_facts {nr : Int32} (l1 : 0 ≤ nr.toInt) (u1 : nr.toInt ≤ 127) : ∃ t1 t2 t3, mm_pl (3 + (3 * nr)) (nr + 1) = t1 ∧ mm_pl (7 + (5 * nr)) t1 = t2 ∧ mm_pl (21 + (7 * nr)) t2 = t3 ∧ (mm_cmp .le t1 nr = false ∧ mm_cmp .lt t2 t1 = false ∧ mm_cmp .lt t3 t2 = false ∧ mm_cmp .le t3 255 = true) ∧ (mm_cmp .gt (nr + 1) t1 = false ∧ mm_cmp .gt t1 t2 = false ∧ mm_cmp .gt t2 t3 = false ∧ mm_cmp .gt t3 255 = false) := by
  refine ⟨_, _, _, rfl, rfl, rfl, ?_⟩
  have h := mm_fb_ok nr.toInt.toNat (by omega)
  have e : Int32.ofNat nr.toInt.toNat = nr := by
    apply Int32.toInt_inj.mp
    rw [mm_nat (by omega)]
    omega
  rw [e] at h
  simp only [mm_fb, Bool.and_eq_true, Bool.not_eq_true'] at h
  obtain ⟨⟨⟨⟨⟨⟨⟨h1, h2⟩, h3⟩, h4⟩, h5⟩, h6⟩, h7⟩, h8⟩ := h
  exact ⟨⟨h1, h2, h3, h4⟩, h5, h6, h7, h8⟩
