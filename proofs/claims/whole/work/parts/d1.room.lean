/-! ===== reading: rooms ===== -/
section RE
variable {f : Int → Int} {N : Int} {c m : JM} {B : Int}
theorem a_room (R : r_all f N B c m) (e r : Int) : ∃ v, F11_room e r c = some (v, c) ∧ F12_room e r m = some (v, m) := by
  unfold F11_room F11_room_16 F12_room F12_room_29
  rw [f_exch, m_in, Option.bind_some, Option.bind_some]
  dsimp only
  rw [f_within, m_in, Option.bind_some, Option.bind_some]
  dsimp only
  by_cases h1 : 0 ≤ e ∧ e ≤ 1
  · rw [if_pos (c := 0 ≤ e ∧ e ≤ 1) h1, if_neg (show ¬ (1 : Int) = 0 by decide), if_neg (show ¬ (1 : Int) = 0 by decide)]
    by_cases h2 : 0 ≤ r ∧ r ≤ 1
    · have hr : r = 0 ∨ r = 1 := by omega
      rw [if_pos (c := 0 ≤ r ∧ r ≤ 1) h2, if_neg (show ¬ (1 : Int) = 0 by decide), if_neg (show ¬ (1 : Int) = 0 by decide), g_t (by omega), g_t (by omega), f_inRoom hr, Option.bind_some]
      exact ⟨_, rfl, by rw [R.1.2.2.2.2.2.1.1 e r (by omega) hr]⟩
    · rw [if_neg (c := 0 ≤ r ∧ r ≤ 1) h2, if_pos (show (0 : Int) = 0 from rfl), if_pos (show (0 : Int) = 0 from rfl)]
      exact ⟨_, rfl, rfl⟩
  · rw [if_neg (c := 0 ≤ e ∧ e ≤ 1) h1, if_pos (show (0 : Int) = 0 from rfl), if_pos (show (0 : Int) = 0 from rfl)]
    exact ⟨_, rfl, rfl⟩
end RE
