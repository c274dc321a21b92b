/-! a row's end: what the last byte says of the bits held -/
def wS (W V : WT) : Prop := ∃ l : List Int, (∀ b ∈ l, 0 ≤ b ∧ b ≤ 1) ∧ V = l.foldl wBit W
theorem wS_rf {W : WT} : wS W W := ⟨[], fun b h => absurd h (by simp), rfl⟩
theorem wS_tr {W V U : WT} (h : wS W V) (h2 : wS V U) : wS W U := by
  obtain ⟨l, hl, e⟩ := h
  obtain ⟨m, hm, e2⟩ := h2
  refine ⟨l ++ m, fun b hb => ?_, by rw [e2, e, List.foldl_append]⟩
  rcases List.mem_append.1 hb with h | h
  · exact hl b h
  · exact hm b h
theorem wS_bit {W : WT} {b : Int} (hb : 0 ≤ b ∧ b ≤ 1) : wS W (wBit W b) := ⟨[b], fun x hx => by rw [List.mem_singleton.1 hx]; exact hb, rfl⟩
theorem wS_bits {v : Int} : ∀ (n : Nat) (W : WT), wS W (wBits n v W)
  | 0, _ => wS_rf
  | n + 1, W => by
    rw [wBits]
    exact wS_tr (wS_bit (by omega)) (wS_bits n _)
theorem wS_num {W : WT} {m k z q : Int} : wS W (wNum W m k z q) := by
  unfold wNum
  split
  · exact wS_tr (wS_tr (wS_bits _ _) (wS_bit (by decide))) (wS_bits _ _)
  · exact wS_tr (wS_tr (wS_bits _ _) (wS_bit (by decide))) (wS_bits _ _)
theorem wS_rP : ∀ (m : Nat) (l p : Int) (W : WT), wS W (rP m l p W).2.2
  | 0, _, _, _ => wS_rf
  | m + 1, l, p, W => by
    rw [rP]
    split
    · exact wS_tr (wS_bit (by decide)) (wS_rP m _ _ _)
    · exact wS_rf
theorem wS_xW {x n w : Int} {P : Int × Int × WT} : wS P.2.2 (xW x n w P) := by
  unfold xW
  split
  · exact wS_tr (wS_bit (by decide)) (wS_bits _ _)
  · split
    · exact wS_bit (by decide)
    · exact wS_rf
theorem wS_rX {Z : Nat → Int} {w : Int} {S : Int → Int} {y x : Int} {X : XT} : wS X.1 (rX Z w S y x X).1 := wS_tr (wS_rP _ _ _ _) wS_xW
theorem wS_st {Z : Nat → Int} {w : Int} {S : Int → Int} {y x : Int} {X : XT} : wS X.1 (stX Z w S y x X).1 := by
  unfold stX
  split
  · split
    · exact wS_tr wS_rX wS_num
    · exact wS_rX
  · exact wS_num
theorem wS_pl {Z : Nat → Int} {w h : Int} {S : Int → Int → Int} : ∀ (n : Nat) (y x : Int) (X : XT), wS X.1 (plX Z w h S n y x X).1
  | 0, _, _, _ => wS_rf
  | n + 1, y, x, X => by
    rw [plX]
    split
    · exact wS_rf
    · split
      · exact wS_pl n _ _ _
      · exact wS_tr wS_st (wS_pl n _ _ _)
/-- behind a full byte one bit less is held -/
def wJ (W : WT) : Prop := wok W ∧ 1 ≤ W.2.1 ∧ (W.1 (W.2.1 - 1).toNat % 256 = 255 → W.2.2.2 ≤ 7 ∧ 2 * W.2.2.1 < w_p W.2.2.2)
theorem nb_256 {v : Int} (h : 0 ≤ v ∧ v ≤ 255) : nb v % 256 = v := by
  have hq : ∀ q : Nat, q < 256 → nb (q : Int) % 256 = q := by decide +kernel
  have h1 := hq v.toNat (by omega)
  rw [show (v.toNat : Int) = v by omega] at h1
  exact h1
theorem wJ_bit {W : WT} {b : Int} (h : wJ W) (hb : 0 ≤ b ∧ b ≤ 1) : wJ (wBit W b) := by
  obtain ⟨h1, h2, h3⟩ := h
  have hu := (wBit_u h1 hb).1
  refine ⟨hu, ?_⟩
  obtain ⟨r1, r8, e0, e1⟩ := h1
  have hpv := w_pv
  unfold wBit
  by_cases hr : W.2.2.2 = 1
  · rw [if_pos hr]
    rw [hr] at e1
    refine ⟨by show 1 ≤ W.2.1 + 1; omega, fun hl => ?_⟩
    have hl : ua W.1 W.2.1.toNat (nb (2 * W.2.2.1 + b)) (W.2.1 + 1 - 1).toNat % 256 = 255 := hl
    rw [show W.2.1 + 1 - 1 = W.2.1 by omega, ua_eq, nb_256 (by omega)] at hl
    show (if 2 * W.2.2.1 + b = 255 then (7 : Int) else 8) ≤ 7 ∧ 2 * (0 : Int) < w_p (if 2 * W.2.2.1 + b = 255 then 7 else 8)
    rw [if_pos hl]
    omega
  · rw [if_neg hr]
    refine ⟨h2, fun hl => ?_⟩
    obtain ⟨g1, g2⟩ := h3 hl
    show W.2.2.2 - 1 ≤ 7 ∧ 2 * (2 * W.2.2.1 + b) < w_p (W.2.2.2 - 1)
    refine ⟨by omega, ?_⟩
    have hcs : W.2.2.2 = 2 ∨ W.2.2.2 = 3 ∨ W.2.2.2 = 4 ∨ W.2.2.2 = 5 ∨ W.2.2.2 = 6 ∨ W.2.2.2 = 7 := by omega
    rcases hcs with e | e | e | e | e | e <;> rw [e] at g2 ⊢ <;> simp only [Int.reduceSub] <;> omega
theorem wJ_S {W V : WT} (h : wJ W) (hs : wS W V) : wJ V := by
  obtain ⟨l, hl, rfl⟩ := hs
  induction l generalizing W with
  | nil => exact h
  | cons b l ih => exact ih (wJ_bit h (hl b (by simp))) (fun x hx => hl x (by simp [hx]))
theorem wJ_pl {Z : Nat → Int} {w h : Int} {S : Int → Int → Int} {n : Nat} {y x : Int} {X : XT} (h0 : wJ X.1) : wJ (plX Z w h S n y x X).1 := wJ_S h0 (wS_pl n y x X)
/-- so many zeros that the byte is full -/
theorem wBits_z : ∀ (n : Nat) (W : WT), W.2.2.2 = n + 1 → wBits (n + 1) 0 W = (ua W.1 W.2.1.toNat (nb (W.2.2.1 * 2 ^ (n + 1))), W.2.1 + 1, 0, if W.2.2.1 * 2 ^ (n + 1) = 255 then 7 else 8)
  | 0, W, h => by
    rw [wBits, wBits, Int.zero_ediv]
    unfold wBit
    rw [if_pos (by rw [h]; rfl), show 2 * W.2.2.1 + 0 % 2 = W.2.2.1 * 2 ^ (0 + 1) by rw [Int.pow_succ, Int.pow_zero]; omega]
  | n + 1, W, h => by
    rw [wBits, Int.zero_ediv, wBits_z n (wBit W (0 % 2)) ?_]
    · unfold wBit
      rw [if_neg (by omega)]
      have e : (2 * W.2.2.1 + 0 % 2) * 2 ^ (n + 1) = W.2.2.1 * 2 ^ (n + 1 + 1) := by
        rw [Int.pow_succ _ (n + 1), show 2 * W.2.2.1 + 0 % 2 = W.2.2.1 * 2 by omega, Int.mul_assoc, Int.mul_comm 2]
      show (ua W.1 W.2.1.toNat (nb ((2 * W.2.2.1 + 0 % 2) * 2 ^ (n + 1))), W.2.1 + 1, 0, if (2 * W.2.2.1 + 0 % 2) * 2 ^ (n + 1) = 255 then 7 else 8) = _
      rw [e]
    · unfold wBit
      rw [if_neg (by omega)]
      show W.2.2.2 - 1 = _
      omega
/-- the bytes that are there, whatever is held -/
def wrb (W : WT) (z : Int) (f : Nat → Int) : Prop := W.2.1 = z ∧ ∀ i : Nat, (i : Int) < z → f i = W.1 i
theorem wrb_l {W : WT} {z h r : Int} {f : Nat → Int} (hw : wrl W z h r f) : wrb W z f := ⟨hw.1, hw.2.2.2⟩
theorem wrb_w {W : WT} {z : Int} {f : Nat → Int} (hw : wrb W z f) (h r : Int) : wrl (W.1, W.2.1, h, r) z h r f := ⟨hw.1, rfl, rfl, hw.2⟩
theorem wrb_add {W : WT} {z v : Int} {f : Nat → Int} (hw : wrb W z f) (hz : 0 ≤ z) : wrb (wAdd W v) (z + 1) (ua f z.toNat (nb v)) := wrb_l (wrl_add (v := v) (wrb_w hw W.2.2.1 W.2.2.2) hz (fun _ _ => rfl))
theorem wrl_et {V : WT} {z : Int} {f : Nat → Int} (h : wrl V z 0 8 f) : V = (V.1, V.2.1, 0, 8) := by
  obtain ⟨_, h2, h3, _⟩ := h
  rw [← h2, ← h3]
/-- behind a full byte that holds nothing -/
theorem wFin_7 {W : WT} (h : wJ W) (hl : W.1 (W.2.1 - 1).toNat % 256 = 255) (hr : 7 ≤ W.2.2.2) : wFin W = (ua W.1 W.2.1.toNat (nb 0), W.2.1 + 1, 0, 8) := by
  obtain ⟨⟨r1, r8, e0, e1⟩, h2, h3⟩ := h
  obtain ⟨g1, g2⟩ := h3 hl
  have er : W.2.2.2 = 7 := by omega
  have hpv := w_pv
  rw [er] at g2
  have eh : W.2.2.1 = 0 := by omega
  unfold wFin
  rw [if_pos (by omega), eh, Int.zero_mul]
theorem wFin_8 {W : WT} (hr : W.2.2.2 = 8) : wFin W = (W.1, W.2.1, 0, 8) := by
  unfold wFin
  rw [if_neg (by omega)]
/-- zeros up to the byte's end: what finish writes, and no full byte -/
theorem wFin_z {W : WT} (h : wok W) (hr : W.2.2.2 < 8) : (wBits W.2.2.2.toNat 0 W).1 = (wFin W).1 ∧ (wBits W.2.2.2.toNat 0 W).2.1 = (wFin W).2.1 ∧ ¬ (wFin W).1 ((wFin W).2.1 - 1).toNat % 256 = 255 := by
  obtain ⟨r1, r8, e0, e1⟩ := h
  have e : W.2.2.2.toNat = (W.2.2.2.toNat - 1) + 1 := by omega
  have hz := wBits_z (W.2.2.2.toNat - 1) W (by omega)
  rw [← e] at hz
  rw [hz]
  unfold wFin
  rw [if_pos hr]
  refine ⟨rfl, rfl, fun hl => ?_⟩
  have hl : ua W.1 W.2.1.toNat (nb (W.2.2.1 * 2 ^ W.2.2.2.toNat)) (W.2.1 + 1 - 1).toNat % 256 = 255 := hl
  rw [show W.2.1 + 1 - 1 = W.2.1 by omega, ua_eq] at hl
  have hpv := w_pv
  have hb : 0 ≤ W.2.2.1 * 2 ^ W.2.2.2.toNat ∧ W.2.2.1 * 2 ^ W.2.2.2.toNat ≤ 254 := by
    generalize W.2.2.2 = r at *
    rcases w_r8 r1 r8 with rfl | rfl | rfl | rfl | rfl | rfl | rfl | rfl
    · show 0 ≤ W.2.2.1 * 2 ∧ W.2.2.1 * 2 ≤ 254; omega
    · show 0 ≤ W.2.2.1 * 4 ∧ W.2.2.1 * 4 ≤ 254; omega
    · show 0 ≤ W.2.2.1 * 8 ∧ W.2.2.1 * 8 ≤ 254; omega
    · show 0 ≤ W.2.2.1 * 16 ∧ W.2.2.1 * 16 ≤ 254; omega
    · show 0 ≤ W.2.2.1 * 32 ∧ W.2.2.1 * 32 ≤ 254; omega
    · show 0 ≤ W.2.2.1 * 64 ∧ W.2.2.1 * 64 ≤ 254; omega
    · show 0 ≤ W.2.2.1 * 128 ∧ W.2.2.1 * 128 ≤ 254; omega
    · omega
  rw [nb_256 (by omega)] at hl
  omega
