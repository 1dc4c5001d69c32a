/-! ===== reading: groups ===== -/
section RF
variable {f : Int → Int} {N : Int} {c m : JM} {B : Int}
theorem a_group (R : r_all f N B c m) (e g w : Int) : ∃ v, F11_group e g w c = some (v, c) ∧ F12_group e g w m = some (v, m) := by
  unfold F11_group F11_group_25 F12_group F12_group_32
  rw [f_exch, m_in, Option.bind_some, Option.bind_some]
  dsimp only
  rw [f_within, m_in, Option.bind_some, Option.bind_some]
  dsimp only
  rw [f_within, m_in, Option.bind_some, Option.bind_some]
  dsimp only
  by_cases h1 : 0 ≤ e ∧ e ≤ 1
  · rw [if_pos (c := 0 ≤ e ∧ e ≤ 1) h1, if_neg (show ¬ (1 : Int) = 0 by decide), if_neg (show ¬ (1 : Int) = 0 by decide)]
    by_cases h2 : 0 ≤ g ∧ g ≤ 2
    · rw [if_pos (c := 0 ≤ g ∧ g ≤ 2) h2, if_neg (show ¬ (1 : Int) = 0 by decide), if_neg (show ¬ (1 : Int) = 0 by decide)]
      by_cases h3 : 0 ≤ w ∧ w ≤ 1
      · have w2 : w32 (w32 (3 * e) + g) = 3 * e + g := by rw [w32_of (x := 3 * e) (by omega) (by omega), w32_of (by omega) (by omega)]
        have q := R.1.2.2.2.2.1.1 (3 * e + g)
        rw [if_pos (c := 0 ≤ w ∧ w ≤ 1) h3, if_neg (show ¬ (1 : Int) = 0 by decide), if_neg (show ¬ (1 : Int) = 0 by decide), g_t (by omega), g_t (by omega), w2, g_t (by omega), g_t (by omega), q.1, q.2.2]
        by_cases h4 : w = 0
        · rw [if_pos h4, if_pos h4]; exact ⟨_, rfl, rfl⟩
        · rw [if_neg h4, if_neg h4]; exact ⟨_, rfl, rfl⟩
      · rw [if_neg (c := 0 ≤ w ∧ w ≤ 1) h3, if_pos (show (0 : Int) = 0 from rfl), if_pos (show (0 : Int) = 0 from rfl)]
        exact ⟨_, rfl, rfl⟩
    · rw [if_neg (c := 0 ≤ g ∧ g ≤ 2) h2, if_pos (show (0 : Int) = 0 from rfl), if_pos (show (0 : Int) = 0 from rfl)]
      exact ⟨_, rfl, rfl⟩
  · rw [if_neg (c := 0 ≤ e ∧ e ≤ 1) h1, if_pos (show (0 : Int) = 0 from rfl), if_pos (show (0 : Int) = 0 from rfl)]
    exact ⟨_, rfl, rfl⟩
end RF
