/-! the class reads a row, exactly -/
/-- the class's reader stands so -/
def rwS (A : TN) (f l w h pl dp : Int) (fn ft fs : Nat → Int) (S : SR) : Prop := (∀ i : Nat, i < 5 → ft i = S.2.2.2.2.1 i) ∧ ((f = 0 ∧ S.2.1.2.2.1 = 0 ∧ S.2.2.1 = 0) ∨ (f = 1 ∧ S.2.1 = (w, h, pl, dp) ∧ S.2.2.1 = pl - l ∧ ((1 ≤ w ∧ 1 ≤ h) ∧ (pl = 1 ∨ pl = 3) ∧ 2 ≤ dp) ∧ (0 ≤ l ∧ l ≤ pl) ∧ (∀ k : Int, 0 ≤ k → k < pl → fn k.toNat = qN A S.2.2.2.1 k) ∧ ∀ q : Int, 0 ≤ q → q < S.2.2.1 → rSm (q * h) w h (S.2.2.2.2.2.2 q) fs))
/-- a picture that was read -/
def rwE (w h pl dp : Int) (fs : Nat → Int) (S : SR) : Prop := S.2.1 = (w, h, pl, dp) ∧ ((1 ≤ w ∧ 1 ≤ h) ∧ (pl = 1 ∨ pl = 3) ∧ 2 ≤ dp) ∧ ∀ q : Int, 0 ≤ q → q < pl → rSm (q * h) w h (S.2.2.2.2.2.2 q) fs
def rwI (A : TN) (R : Option SR × MT) (mk a f l w h pl dp : Int) (fn ft fs fk : Nat → Int) : Prop := ∃ (n : Nat) (S : SR), A.2 - a < n ∧ secK A (secs A n) mk a S = R ∧ rwS A f l w h pl dp fn ft fs S ∧ mrk S.2.2.2.2.2.1 fk
section RWS
variable {A : TN} {f l w h pl dp a : Int} {fn ft fs fs2 : Nat → Int} {S : SR} {X : XR}
theorem rwS_0 {K : MT} {T : Int → Nat → Int} (hf : f = 0) (ht : ∀ i : Nat, i < 5 → ft i = 0) : rwS A f l w h pl dp fn ft fs (a, (0, 0, 0, 0), 0, 0, (fun _ => 0), K, T) := ⟨ht, Or.inl ⟨hf, rfl, rfl⟩⟩
theorem rwS_ri (h0 : rwS A f l w h pl dp fn ft fs S) : f = 1 → (1 ≤ w ∧ 2 ≤ dp ∧ l ≤ pl) ∧ (1 ≤ h ∧ (pl = 1 ∨ pl = 3)) := by
  intro hf
  rcases h0.2 with ⟨h1, _, _⟩ | ⟨h1, h2, h3, h4, h5, _, _⟩
  · omega
  · omega
theorem rwS_1 (h0 : rwS A f l w h pl dp fn ft fs S) (hf : f ≠ 0) : S.2.1.2.2.1 ≠ 0 := by
  rcases h0.2 with ⟨h1, _, _⟩ | ⟨h1, h2, h3, h4, h5, _, _⟩
  · exact absurd h1 hf
  · rw [h2]
    show pl ≠ 0
    omega
theorem rwS_c (h0 : rwS A f l w h pl dp fn ft fs S) : (S.2.1.2.2.1 ≠ 0 ↔ f = 1) ∧ (f = 1 → (S.2.2.1 = S.2.1.2.2.1 ↔ l = 0)) ∧ (f = 0 ∨ f = 1) ∧ (f = 1 → 0 ≤ l) := by
  rcases h0.2 with ⟨h1, h2, _⟩ | ⟨h1, h2, h3, h4, h5, _, _⟩
  · rw [h2]
    omega
  · have e : S.2.1.2.2.1 = pl := by rw [h2]
    rw [e]
    omega
theorem rwS_E (h0 : rwS A f l w h pl dp fn ft fs S) (hf : f = 1) (hl : l = 0) : rwE w h pl dp fs S := by
  rcases h0.2 with ⟨h1, h2, _⟩ | ⟨h1, h2, h3, h4, h5, _, h7⟩
  · omega
  · exact ⟨h2, h4, fun q q0 q1 => h7 q q0 (by omega)⟩
theorem rwS_f {f2 l2 w2 h2 pl2 dp2 : Int} {fn2 ft2 : Nat → Int} (h0 : rwS A f l w h pl dp fn ft fs S) (hf : f = 0) (ok : okF A a) (e1 : w2 = qW A a) (e2 : h2 = qH A a) (e3 : pl2 = qP A a) (e4 : dp2 = qD A a) (e5 : f2 = 1) (e6 : l2 = qP A a) (hn : ∀ j : Int, 0 ≤ j → j < qP A a → fn2 j.toNat = qN A a j) (ht : ft2 = ft) : sec A 247 a S = some (a + 8 + 3 * qP A a, (qW A a, qH A a, qP A a, qD A a), S.2.2.1, a, S.2.2.2.2) ∧ rwS A f2 l2 w2 h2 pl2 dp2 fn2 ft2 fs2 (a + 8 + 3 * qP A a, (qW A a, qH A a, qP A a, qD A a), S.2.2.1, a, S.2.2.2.2) := by
  subst e1 e2 e3 e4 e5 e6 ht
  rcases h0.2 with ⟨h1, h2, h3⟩ | ⟨h1, _⟩
  · refine ⟨sec_f h2 ok, h0.1, Or.inr ⟨rfl, rfl, ?_, ?_, ?_, hn, ?_⟩⟩
    · show S.2.2.1 = qP A a - qP A a
      omega
    · obtain ⟨o1, o2, o3, o4, o5, o6, o7⟩ := ok
      omega
    · obtain ⟨o1, o2, o3, o4, o5, o6, o7⟩ := ok
      omega
    · intro q q0 q1
      have q1 : q < S.2.2.1 := q1
      omega
  · omega
theorem rwS_m {ft2 : Nat → Int} (h0 : rwS A f l w h pl dp fn ft fs S) (ok : okM A a) (ht : ∀ i : Nat, i < 5 → ft2 i = qM A a i) : sec A 248 a S = some (a + 13, S.2.1, S.2.2.1, S.2.2.2.1, qM A a, S.2.2.2.2.2) ∧ rwS A f l w h pl dp fn ft2 fs (a + 13, S.2.1, S.2.2.1, S.2.2.2.1, qM A a, S.2.2.2.2.2) := ⟨sec_m ok, ht, h0.2⟩
theorem rwS_z (h0 : rwS A f l w h pl dp fn ft fs S) (hf : f = 1) {n : Int} : ZS S.2.2.2.2.1 S.2.1.2.2.2 n = ZM (ft 0) (ft 1) (ft 2) (ft 3) (ft 4) dp n ∧ VS S.2.2.2.2.1 S.2.1.2.2.2 n = VM (ft 0) (ft 1) (ft 2) (ft 3) (ft 4) dp n ∧ S.2.1 = (w, h, pl, dp) ∧ S.2.2.1 = pl - l := by
  rcases h0.2 with ⟨h1, h2, _⟩ | ⟨h1, h2, h3, h4, h5, _, h7⟩
  · omega
  · have e : S.2.1.2.2.2 = dp := by rw [h2]
    unfold ZS VS
    rw [e, h0.1 0 (by decide), h0.1 1 (by decide), h0.1 2 (by decide), h0.1 3 (by decide), h0.1 4 (by decide)]
    exact ⟨rfl, rfl, h2, h3⟩
theorem rwS_sn (h0 : rwS A f l w h pl dp fn ft fs S) (hn : ¬ (f = 1 ∧ 1 ≤ l ∧ okS A a (fn (pl - l).toNat) ∧ VM (ft 0) (ft 1) (ft 2) (ft 3) (ft 4) dp (gB A (a + 5)))) : sec A 218 a S = none := by
  refine sec_sn (fun hh => hn ?_)
  obtain ⟨g1, g2, g3⟩ := hh
  have hc := rwS_c h0
  have hf : f = 1 := by
    rcases hc.2.2.1 with h1 | h1
    · have e := (not_congr hc.1).mpr (by omega)
      rcases h0.2 with ⟨_, h2, h3⟩ | ⟨h2, _⟩
      · omega
      · omega
    · exact h1
  obtain ⟨z1, z2, z3, z4⟩ := rwS_z h0 hf (n := gB A (a + 5))
  have e : S.2.1.2.2.1 = pl := by rw [z3]
  rcases h0.2 with ⟨h1, _⟩ | ⟨h1, h2, h3, h4, h5, h6, h7⟩
  · omega
  · refine ⟨hf, by omega, ?_, by rw [← z2]; exact g3⟩
    rw [h6 (pl - l) (by omega) (by omega), ← z4]
    exact g2
theorem plS_eq (h0 : rwS A f l w h pl dp fn ft fs S) (hf : f = 1) : plS A S.2.2.2.2.1 S.2.1.1 S.2.1.2.1 S.2.1.2.2.2 a = plQ A (ZM (ft 0) (ft 1) (ft 2) (ft 3) (ft 4) dp (gB A (a + 5))) w h 5000 0 0 ((a + 8, 0, 0), mB (ZM (ft 0) (ft 1) (ft 2) (ft 3) (ft 4) dp (gB A (a + 5)) 3024), 0, fun _ => 0) := by
  obtain ⟨z1, z2, z3, z4⟩ := rwS_z h0 hf (n := gB A (a + 5))
  unfold plS
  rw [z1, show S.2.1.1 = w by rw [z3], show S.2.1.2.1 = h by rw [z3]]
theorem rwS_sx (h0 : rwS A f l w h pl dp fn ft fs S) (hf : f = 1) (hX : plQ A (ZM (ft 0) (ft 1) (ft 2) (ft 3) (ft 4) dp (gB A (a + 5))) w h 5000 0 0 ((a + 8, 0, 0), mB (ZM (ft 0) (ft 1) (ft 2) (ft 3) (ft 4) dp (gB A (a + 5)) 3024), 0, fun _ => 0) = none) : sec A 218 a S = none := sec_sx (by rw [plS_eq h0 hf]; exact hX)
theorem rSm_o {b w h : Int} {T f f2 : Nat → Int} {q : Int} (h1 : rSm (q * h) w h T f) (ho : rOt (b * h) w h f2 f) (hq : q < b) (hq0 : 0 ≤ q) (hw : 1 ≤ w ∧ 1 ≤ h) : rSm (q * h) w h T f2 := by
  intro yy xx y0 y1 x0 x1
  have e1 : (q + 1) * h ≤ b * h := Int.mul_le_mul_of_nonneg_right (by omega) (by omega)
  rw [Int.add_mul, Int.one_mul] at e1
  have e2 : (q * h + yy + 1) * w ≤ (b * h) * w := Int.mul_le_mul_of_nonneg_right (by omega) (by omega)
  rw [Int.add_mul (q * h + yy) 1 w, Int.one_mul] at e2
  have e3 : 0 ≤ (q * h + yy) * w := Int.mul_nonneg (by have := Int.mul_nonneg hq0 (show 0 ≤ h by omega); omega) (by omega)
  rw [ho _ (Or.inl (by omega))]
  exact h1 yy xx y0 y1 x0 x1
theorem rwS_s (h0 : rwS A f l w h pl dp fn ft fs S) (hf : f = 1) (hl : 1 ≤ l) (ok : okS A a (fn (pl - l).toNat)) (hv : VM (ft 0) (ft 1) (ft 2) (ft 3) (ft 4) dp (gB A (a + 5))) (hX : plQ A (ZM (ft 0) (ft 1) (ft 2) (ft 3) (ft 4) dp (gB A (a + 5))) w h 5000 0 0 ((a + 8, 0, 0), mB (ZM (ft 0) (ft 1) (ft 2) (ft 3) (ft 4) dp (gB A (a + 5)) 3024), 0, fun _ => 0) = some X) (hs : rSm ((pl - l) * h) w h X.2.2.2 fs2) (ho : rOt ((pl - l) * h) w h fs2 fs) : sec A 218 a S = some (scN S X) ∧ rwS A f (l - 1) w h pl dp fn ft fs2 (scN S X) := by
  obtain ⟨z1, z2, z3, z4⟩ := rwS_z h0 hf (n := gB A (a + 5))
  have e : S.2.1.2.2.1 = pl := by rw [z3]
  rcases h0.2 with ⟨h1, _⟩ | ⟨h1, h2, h3, h4, h5, h6, h7⟩
  · omega
  · refine ⟨sec_s ⟨by omega, by rw [z4, ← h6 (pl - l) (by omega) (by omega)]; exact ok, by rw [z2]; exact hv⟩ (by rw [plS_eq h0 hf]; exact hX), h0.1, Or.inr ⟨h1, h2, ?_, h4, by omega, h6, ?_⟩⟩
    · show S.2.2.1 + 1 = pl - (l - 1)
      omega
    · intro q q0 q1
      have q1 : q < S.2.2.1 + 1 := q1
      show rSm (q * h) w h (if q = S.2.2.1 then X.2.2.2 else S.2.2.2.2.2.2 q) fs2
      by_cases eq : q = S.2.2.1
      · rw [if_pos eq, eq, z4]
        exact hs
      · rw [if_neg eq]
        exact rSm_o (h7 q q0 (by omega)) ho (by omega) q0 h4.1
end RWS
