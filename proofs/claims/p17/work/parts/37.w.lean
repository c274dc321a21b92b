/-! what the reference's bits cost, in eighths of a bit: 8 a bit, and 1 more for a 1 (eight of them may make a byte 255, behind which a bit is lost) -/
def w_p (room : Int) : Int := if room = 8 then 1 else if room = 7 then 2 else if room = 6 then 4 else if room = 5 then 8 else if room = 4 then 16 else if room = 3 then 32 else if room = 2 then 64 else if room = 1 then 128 else 256
def w_on (held room : Int) : Int := if held + 1 = w_p room then 8 - room else 0
def w_u (size held room : Int) : Int := 64 * size - 8 * room + 64 + w_on held room
def w_ok (held room : Int) : Prop := 1 ≤ room ∧ room ≤ 8 ∧ 0 ≤ held ∧ held < w_p room
theorem w_r8 {room : Int} (h1 : 1 ≤ room) (h2 : room ≤ 8) : room = 1 ∨ room = 2 ∨ room = 3 ∨ room = 4 ∨ room = 5 ∨ room = 6 ∨ room = 7 ∨ room = 8 := by omega
theorem w_pv : w_p 1 = 128 ∧ w_p 2 = 64 ∧ w_p 3 = 32 ∧ w_p 4 = 16 ∧ w_p 5 = 8 ∧ w_p 6 = 4 ∧ w_p 7 = 2 ∧ w_p 8 = 1 := by decide
theorem w_on_bd {held room : Int} (h1 : 1 ≤ room) (h2 : room ≤ 8) : 0 ≤ w_on held room ∧ w_on held room ≤ 7 := by
  unfold w_on
  split <;> omega
theorem w_lo {size held room : Int} (h : w_ok held room) : 64 * size ≤ w_u size held room ∧ w_u size held room ≤ 64 * size + 64 ∧ 0 ≤ held ∧ held ≤ 127 ∧ 1 ≤ room ∧ room ≤ 8 := by
  obtain ⟨h1, h2, h3, h4⟩ := h
  have h5 := w_on_bd (held := held) h1 h2
  obtain ⟨p1, p2, p3, p4, p5, p6, p7, p8⟩ := w_pv
  unfold w_u
  rcases w_r8 h1 h2 with rfl | rfl | rfl | rfl | rfl | rfl | rfl | rfl <;> omega
theorem w_bit1 {size held room v : Int} (h : w_ok held room) (hv : 0 ≤ v ∧ v ≤ 1) (hr : room ≠ 1) : w_ok (2 * held + v) (room - 1) ∧ w_u size (2 * held + v) (room - 1) ≤ w_u size held room + 8 + v := by
  obtain ⟨h1, h2, h3, h4⟩ := h
  obtain ⟨p1, p2, p3, p4, p5, p6, p7, p8⟩ := w_pv
  unfold w_ok w_u w_on
  rcases w_r8 h1 h2 with rfl | rfl | rfl | rfl | rfl | rfl | rfl | rfl
  · exact absurd rfl hr
  all_goals
    refine ⟨⟨by decide, by decide, by omega, ?_⟩, ?_⟩
    · first
        | (show 2 * held + v < w_p 1; omega) | (show 2 * held + v < w_p 2; omega) | (show 2 * held + v < w_p 3; omega) | (show 2 * held + v < w_p 4; omega)
        | (show 2 * held + v < w_p 5; omega) | (show 2 * held + v < w_p 6; omega) | (show 2 * held + v < w_p 7; omega)
    · first
        | (rw [show (2 : Int) - 1 = 1 from rfl, p1, p2]; split <;> split <;> omega) | (rw [show (3 : Int) - 1 = 2 from rfl, p2, p3]; split <;> split <;> omega) | (rw [show (4 : Int) - 1 = 3 from rfl, p3, p4]; split <;> split <;> omega)
        | (rw [show (5 : Int) - 1 = 4 from rfl, p4, p5]; split <;> split <;> omega) | (rw [show (6 : Int) - 1 = 5 from rfl, p5, p6]; split <;> split <;> omega) | (rw [show (7 : Int) - 1 = 6 from rfl, p6, p7]; split <;> split <;> omega) | (rw [show (8 : Int) - 1 = 7 from rfl, p7, p8]; split <;> split <;> omega)
theorem w_bit3 {size size1 held room v j : Int} (h : w_ok held room) (hr : room = 1) (hv : 0 ≤ v ∧ v ≤ 1) (hs : size1 = size + 1) (hj : (2 * held + v = 255 ∧ j = 7) ∨ (2 * held + v ≠ 255 ∧ j = 8)) : w_u size1 0 j ≤ w_u size held room + 8 + v := by
  subst hr
  obtain ⟨h1, h2, h3, h4⟩ := h
  obtain ⟨p1, p2, p3, p4, p5, p6, p7, p8⟩ := w_pv
  unfold w_u w_on
  rcases hj with ⟨e, rfl⟩ | ⟨e, rfl⟩
  · rw [p1, p7]; split <;> split <;> omega
  · rw [p1, p8]; split <;> split <;> omega
theorem w_ok0 {j : Int} (h : j = 7 ∨ j = 8) : w_ok 0 j := by
  rcases h with rfl | rfl <;> (unfold w_ok; decide)
