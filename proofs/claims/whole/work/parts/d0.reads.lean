/-! ===== reading ===== -/
theorem f_isL (x : Int) (c : JM) : F11_isLine x c = some (if 0 ≤ x ∧ x ≤ 15 then 1 else 0, c) := by
  unfold F11_isLine F11_isLine_14
  by_cases h1 : x < 0
  · rw [if_pos h1, if_neg (by omega)]
  · rw [if_neg h1]
    by_cases h2 : 16 ≤ x
    · rw [if_pos h2, if_neg (by omega)]
    · rw [if_neg h2, if_pos (by omega)]
theorem m_isL2 (x : Int) (m : JM) : F12_isLine x m = some (if 0 ≤ x ∧ x ≤ 15 then 1 else 0, m) := by
  unfold F12_isLine
  rw [m_in, Option.bind_some]
  dsimp only
  by_cases h : 0 ≤ x ∧ x ≤ 15
  · rw [if_pos h, g_t (Or.inr rfl)]
  · rw [if_neg h, g_t (Or.inl rfl)]
section RD
variable {f : Int → Int} {N : Int} {c m : JM} {B : Int}
theorem p_heard (R : r_all f N B c m) (x : Int) : ∃ v, F11_heard x c = some (v, c) ∧ F12_heard x m = some (v, m) := by
  unfold F11_heard F12_heard
  rw [f_isL, m_isL2, Option.bind_some, Option.bind_some]
  dsimp only
  by_cases h : 0 ≤ x ∧ x ≤ 15
  · rw [if_pos h, if_neg (show ¬ (1 : Int) = 0 by decide), if_neg (show ¬ (1 : Int) = 0 by decide), g_t (by omega), g_t (by omega)]
    exact ⟨_, rfl, by rw [(R.1.2.1 x).2.2.2.2.2.2.2.2.2.2.2.2]⟩
  · rw [if_neg h, if_pos (show (0 : Int) = 0 from rfl), if_pos (show (0 : Int) = 0 from rfl)]
    exact ⟨_, rfl, rfl⟩
theorem f_exch (e : Int) (c : JM) : F11_isExchange e c = some (if 0 ≤ e ∧ e ≤ 1 then 1 else 0, c) := by
  unfold F11_isExchange F11_isExchange_13
  by_cases h1 : e < 0
  · rw [if_pos h1, if_neg (by omega)]
  · rw [if_neg h1]
    by_cases h2 : 2 ≤ e
    · rw [if_pos h2, if_neg (by omega)]
    · rw [if_neg h2, if_pos (by omega)]
theorem f_trunk (e k : Int) (hc : c.1 11 0 0 = N) : F11_isTrunk e k c = some (if (0 ≤ e ∧ e ≤ 1) ∧ 0 ≤ k ∧ k ≤ N - 1 then 1 else 0, c) := by
  unfold F11_isTrunk F11_isTrunk_23
  rw [f_exch, Option.bind_some]
  dsimp only
  by_cases h : 0 ≤ e ∧ e ≤ 1
  · rw [if_pos (c := 0 ≤ e ∧ e ≤ 1) h, if_neg (show ¬ (1 : Int) = 0 by decide), hc]
    by_cases h1 : k < 0
    · rw [if_pos h1, if_neg (by omega)]
    · rw [if_neg h1]
      by_cases h2 : N ≤ k
      · rw [if_pos h2, if_neg (by omega)]
      · rw [if_neg h2, if_pos (by omega)]
  · rw [if_neg (c := 0 ≤ e ∧ e ≤ 1) h, if_pos (show (0 : Int) = 0 from rfl), if_neg (fun z => h z.1)]
theorem a_speech (R : r_all f N B c m) (e k : Int) : ∃ v, F11_speech e k c = some (v, c) ∧ F12_speech e k m = some (v, m) := by
  have hN : 1 ≤ N ∧ N ≤ 16 := ⟨R.1.1.2.2.1, R.1.1.2.2.2.1⟩
  have e0 : m.1 12 0 0 = N := R.1.1.2.1
  have w : w32 (N - 1) = N - 1 := w32_of (by omega) (by omega)
  unfold F11_speech F12_speech F12_speech_40
  rw [f_trunk e k R.1.1.1, m_in, Option.bind_some, Option.bind_some]
  dsimp only
  rw [m_in, Option.bind_some, e0, w]
  dsimp only
  by_cases h1 : 0 ≤ e ∧ e ≤ 1
  · rw [if_pos (c := 0 ≤ e ∧ e ≤ 1) h1, if_neg (show ¬ (1 : Int) = 0 by decide)]
    by_cases h2 : 0 ≤ k ∧ k ≤ N - 1
    · have he : e = 0 ∨ e = 1 := by omega
      have w2 : w32 (w32 (16 * e) + k) = 16 * e + k := by rw [w32_of (x := 16 * e) (by omega) (by omega), w32_of (by omega) (by omega)]
      have c20 : c.1 1020 e 1 = N := (R.1.1.2.2.2.2.2.2.2.2.2.2.1 e he).1
      rw [if_pos (c := (0 ≤ e ∧ e ≤ 1) ∧ 0 ≤ k ∧ k ≤ N - 1) ⟨h1, h2⟩, if_pos (c := 0 ≤ k ∧ k ≤ N - 1) h2, if_neg (show ¬ (1 : Int) = 0 by decide), if_neg (show ¬ (1 : Int) = 0 by decide), g_t (by omega), c20, g_t (by omega), w2, g_t (by omega)]
      exact ⟨_, rfl, by rw [(R.2.2.1.2 e k he h2.1 (by omega)).1]⟩
    · rw [if_neg (c := (0 ≤ e ∧ e ≤ 1) ∧ 0 ≤ k ∧ k ≤ N - 1) (fun z => h2 z.2), if_neg (c := 0 ≤ k ∧ k ≤ N - 1) h2, if_pos (show (0 : Int) = 0 from rfl), if_pos (show (0 : Int) = 0 from rfl)]
      exact ⟨_, rfl, rfl⟩
  · rw [if_neg (c := (0 ≤ e ∧ e ≤ 1) ∧ 0 ≤ k ∧ k ≤ N - 1) (fun z => h1 z.1), if_neg (c := 0 ≤ e ∧ e ≤ 1) h1, if_pos (show (0 : Int) = 0 from rfl), if_pos (show (0 : Int) = 0 from rfl)]
    exact ⟨_, rfl, rfl⟩
theorem a_circuit (R : r_all f N B c m) (e k : Int) : ∃ v, F11_circuit e k c = some (v, c) ∧ F12_circuit e k m = some (v, m) := by
  have hN : 1 ≤ N ∧ N ≤ 16 := ⟨R.1.1.2.2.1, R.1.1.2.2.2.1⟩
  have e0 : m.1 12 0 0 = N := R.1.1.2.1
  have w : w32 (N - 1) = N - 1 := w32_of (by omega) (by omega)
  unfold F11_circuit F12_circuit F12_circuit_40
  rw [f_trunk e k R.1.1.1, m_in, Option.bind_some, Option.bind_some]
  dsimp only
  rw [m_in, Option.bind_some, e0, w]
  dsimp only
  by_cases h1 : 0 ≤ e ∧ e ≤ 1
  · rw [if_pos (c := 0 ≤ e ∧ e ≤ 1) h1, if_neg (show ¬ (1 : Int) = 0 by decide)]
    by_cases h2 : 0 ≤ k ∧ k ≤ N - 1
    · have he : e = 0 ∨ e = 1 := by omega
      have w2 : w32 (w32 (16 * e) + k) = 16 * e + k := by rw [w32_of (x := 16 * e) (by omega) (by omega), w32_of (by omega) (by omega)]
      have c20 : c.1 1020 e 1 = N := (R.1.1.2.2.2.2.2.2.2.2.2.2.1 e he).1
      rw [if_pos (c := (0 ≤ e ∧ e ≤ 1) ∧ 0 ≤ k ∧ k ≤ N - 1) ⟨h1, h2⟩, if_pos (c := 0 ≤ k ∧ k ≤ N - 1) h2, if_neg (show ¬ (1 : Int) = 0 by decide), if_neg (show ¬ (1 : Int) = 0 by decide), g_t (by omega), c20, g_t (by omega), w2, g_t (by omega)]
      exact ⟨_, rfl, by rw [(R.1.2.2.1.2.2.2.2.2.2.2.2.2.2.2.2.2.2.2.2.2.2.2.2.2.2.2.2.2.2.1) (16 * e + k) (by omega) (by omega) (by omega)]⟩
    · rw [if_neg (c := (0 ≤ e ∧ e ≤ 1) ∧ 0 ≤ k ∧ k ≤ N - 1) (fun z => h2 z.2), if_neg (c := 0 ≤ k ∧ k ≤ N - 1) h2, if_pos (show (0 : Int) = 0 from rfl), if_pos (show (0 : Int) = 0 from rfl)]
      exact ⟨_, rfl, rfl⟩
  · rw [if_neg (c := (0 ≤ e ∧ e ≤ 1) ∧ 0 ≤ k ∧ k ≤ N - 1) (fun z => h1 z.1), if_neg (c := 0 ≤ e ∧ e ≤ 1) h1, if_pos (show (0 : Int) = 0 from rfl), if_pos (show (0 : Int) = 0 from rfl)]
    exact ⟨_, rfl, rfl⟩
end RD
