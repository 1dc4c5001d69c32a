/-! ===== reading: links ===== -/
section RH
variable {f : Int → Int} {N : Int} {c m : JM} {B : Int}
theorem a_link (R : r_all f N B c m) (e w : Int) : ∃ v, F11_link e w c = some (v, c) ∧ F12_link e w m = some (v, m) := by
  unfold F11_link F12_link F12_link_22
  rw [f_exch, m_in, Option.bind_some, Option.bind_some]
  dsimp only
  rw [m_in, Option.bind_some]
  dsimp only
  by_cases h1 : 0 ≤ e ∧ e ≤ 1
  · have q := (R.1.2.2.2.1 e (by omega)).1
    have g2 : 0 ≤ e ∧ e < 2 := by omega
    rw [if_pos (c := 0 ≤ e ∧ e ≤ 1) h1, if_neg (show ¬ (1 : Int) = 0 by decide), if_neg (show ¬ (1 : Int) = 0 by decide), g_t g2]
    simp only [g_t g2]
    by_cases h2 : 0 ≤ w ∧ w ≤ 6
    · have h7 : w = 0 ∨ w = 1 ∨ w = 2 ∨ w = 3 ∨ w = 4 ∨ w = 5 ∨ w = 6 := by omega
      rw [if_pos (c := 0 ≤ w ∧ w ≤ 6) h2, if_neg (show ¬ (1 : Int) = 0 by decide)]
      rcases h7 with rfl | rfl | rfl | rfl | rfl | rfl | rfl <;> simp [q]
    · have n : w ≠ 0 ∧ w ≠ 1 ∧ w ≠ 2 ∧ w ≠ 3 ∧ w ≠ 4 ∧ w ≠ 5 ∧ w ≠ 6 := by omega
      rw [if_neg (c := 0 ≤ w ∧ w ≤ 6) h2, if_pos (show (0 : Int) = 0 from rfl), if_neg n.1, if_neg n.2.1, if_neg n.2.2.1, if_neg n.2.2.2.1, if_neg n.2.2.2.2.1, if_neg n.2.2.2.2.2.1, if_neg n.2.2.2.2.2.2]
      exact ⟨_, rfl, rfl⟩
  · rw [if_neg (c := 0 ≤ e ∧ e ≤ 1) h1, if_pos (show (0 : Int) = 0 from rfl), if_pos (show (0 : Int) = 0 from rfl)]
    exact ⟨_, rfl, rfl⟩
end RH
