/-! ===== reading ===== -/
theorem f_isL (x : Int) (c : JM) : F11_isLine x c = some (if 0 ≤ x ∧ x ≤ 15 then 1 else 0, c) := by
  unfold F11_isLine F11_isLine_14
  by_cases h1 : x < 0
  · rw [if_pos h1, if_neg (by omega)]
  · rw [if_neg h1]
    by_cases h2 : 16 ≤ x
    · rw [if_pos h2, if_neg (by omega)]
    · rw [if_neg h2, if_pos (by omega)]
theorem m_isL2 (x : Int) (m : JM) : F12_isLine x m = some (if 0 ≤ x ∧ x ≤ 15 then 1 else 0, m) := by
  unfold F12_isLine
  rw [m_in, Option.bind_some]
  dsimp only
  by_cases h : 0 ≤ x ∧ x ≤ 15
  · rw [if_pos h, g_t (Or.inr rfl)]
  · rw [if_neg h, g_t (Or.inl rfl)]
section RD
variable {f : Int → Int} {N : Int} {c m : JM} {B : Int}
theorem p_heard (R : r_all f N B c m) (x : Int) : ∃ v, F11_heard x c = some (v, c) ∧ F12_heard x m = some (v, m) := by
  unfold F11_heard F12_heard
  rw [f_isL, m_isL2, Option.bind_some, Option.bind_some]
  dsimp only
  by_cases h : 0 ≤ x ∧ x ≤ 15
  · rw [if_pos h, if_neg (show ¬ (1 : Int) = 0 by decide), if_neg (show ¬ (1 : Int) = 0 by decide), g_t (by omega), g_t (by omega)]
    exact ⟨_, rfl, by rw [(R.1.2.1 x).2.2.2.2.2.2.2.2.2.2.2.2]⟩
  · rw [if_neg h, if_pos (show (0 : Int) = 0 from rfl), if_pos (show (0 : Int) = 0 from rfl)]
    exact ⟨_, rfl, rfl⟩
end RD
