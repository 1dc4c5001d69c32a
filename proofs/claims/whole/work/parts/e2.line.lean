/-! ===== reading: lines ===== -/
section RP1
variable {f : Int → Int} {N : Int} {c m c' m' : JM} {B : Int} {H : HT}
theorem l_call (hf : f_ok f) (R : relN f N B H c m) {i : Int} (l : lv c i) : m.1 133 0 (f i) = c.1 0 i 9 ∧ (c.1 0 i 9 = 0 ∨ c.1 0 i 9 = 1 ∨ c.1 0 i 9 = 2 ∨ c.1 0 i 9 = 3 ∨ c.1 0 i 9 = 4) ∧ (0 ≤ f i ∧ f i < 80) ∧ rf f (some i) ≠ -1 ∧ k_R (c.2.1 0 i 8) (m.1 140 0 (f i)) (fun j => m.1 139 0 (12 * f i + j)) := by
  have s := (R.2.2.1.1) i l.1 l.2.1
  have l3 := l.2.2
  exact ⟨s.1, by omega, hf.2.2.1 i l.1 (by have := l.2.1; omega), hf.2.1 i, (R.2.2.1.2.2.2.2.2.2.1) i l (by have := l.1; omega)⟩
theorem p_sound (hf : f_ok f) (R : relN f N B H c m) {l : Int} (g : 0 ≤ l ∧ l < 16) : ∃ v, F4_sound l c = some (v, c) ∧ F12_sounds l m = some (v, m) := by
  have L := R.2.1 l
  have la := (R.2.2.1.2.2.2.2.2.2.2.2.2.2.2.2.2.2.1) l g.1 g.2
  have lo := (R.2.2.1.2.2.2.2.2.2.2.2.2.2.2.2.2.2.2.1) l g.1 g.2 (by omega)
  have lr := (R.2.2.1.2.2.2.2.2.2.2.2.2.2.2.2.2.2.2.2.1) l g.1 g.2
  unfold F4_sound F12_sounds F4_sound_118 F12_sounds_136
  simp only [g_t g, lt_d]
  rw [L.1, la, lo, lr]
  by_cases h6 : c.1 4 l 6 = 0
  · rw [if_pos h6, if_pos h6]
    cases h13 : c.2.2 4 l 13 with
    | none => exact ⟨_, if_pos rfl, if_pos rfl⟩
    | some i => exact ⟨_, if_neg (by simp), if_neg (hf.2.1 i)⟩
  · rw [if_neg h6, if_neg h6]
    cases h11 : c.2.2 4 l 11 with
    | none => exact ⟨_, if_pos rfl, by rw [if_pos (show rf f none = -1 from rfl), L.2.2.2.2.2.2.2.1]⟩
    | some i =>
      obtain ⟨s1, s2, s3, s4, s5⟩ := l_call hf R ((R.2.2.1.2.2.2.2.2.2.2.2.2.2.2.2.2.2.2.2.2.1) l i h11).2.2.1
      have er : rf f (some i) = f i := rfl
      rw [if_neg (by simp), if_neg s4, er, g_t s3]
      simp only [g_t s3, Option.bind_some]
      rw [s1]
      rcases s2 with e | e | e | e | e
      · rw [e, if_pos (show (0 : Int) = 0 from rfl), if_pos (show (0 : Int) = 0 from rfl)]
        have k0 := k_R0 s5
        obtain ⟨K, _, _, kn, _⟩ := s5
        by_cases z : m.1 140 0 (f i) = 0
        · exact ⟨_, if_pos (k0.2 (by omega)), if_pos z⟩
        · exact ⟨_, if_neg (fun y => z (by have := k0.1 y; omega)), if_neg z⟩
      · simp [e]
      · simp [e]
      · rw [e]
        cases h12 : c.2.2 4 l 12 with
        | none => simp [rf]
        | some j =>
          obtain ⟨t1, t2, t3, t4, t5⟩ := l_call hf R ((R.2.2.1.2.2.2.2.2.2.2.2.2.2.2.2.2.2.2.2.2.2.1) l j h12).2.2.1
          have er : rf f (some j) = f j := rfl
          rw [er] at t4 ⊢
          rw [g_t t3, t1]
          by_cases z : c.1 0 j 9 = 2
          · simp [z, t4]
          · simp [z, t4]
      · simp [e]
theorem a_line (hf : f_ok f) (R : r_x f N B c m) (l w : Int) : ∃ v c' m', F11_line l w c = some (v, c') ∧ F12_line l w m = some (v, m') ∧ r_y f N B c m c' m' := by
  unfold F11_line F12_line F12_line_19
  rw [f_isL, m_isL2, Option.bind_some, Option.bind_some]
  dsimp only
  rw [m_in, Option.bind_some]
  dsimp only
  by_cases h1 : 0 ≤ l ∧ l ≤ 15
  · have g : 0 ≤ l ∧ l < 16 := by omega
    have L := R.1.1.2.1 l
    have la := (R.1.1.2.2.1.2.2.2.2.2.2.2.2.2.2.2.2.2.2.1) l g.1 g.2
    have lo := (R.1.1.2.2.1.2.2.2.2.2.2.2.2.2.2.2.2.2.2.2.1) l g.1 g.2 (by omega)
    obtain ⟨v, p1, p2⟩ := p_sound hf R.1.1 g
    rw [if_pos (c := 0 ≤ l ∧ l ≤ 15) h1, if_neg (show ¬ (1 : Int) = 0 by decide), if_neg (show ¬ (1 : Int) = 0 by decide)]
    by_cases h2 : 0 ≤ w ∧ w ≤ 8
    · rw [if_pos (c := 0 ≤ w ∧ w ≤ 8) h2, if_neg (show ¬ (1 : Int) = 0 by decide)]
      simp only [g_t g, lt_d]
      rw [la, lo]
      have h9 : w = 0 ∨ w = 1 ∨ w = 2 ∨ w = 3 ∨ w = 4 ∨ w = 5 ∨ w = 6 ∨ w = 7 ∨ w = 8 := by omega
      have RY := r_y0 R
      rcases h9 with rfl | rfl | rfl | rfl | rfl | rfl | rfl | rfl | rfl
      · rw [if_pos (show (0 : Int) = 0 from rfl), if_pos (show (0 : Int) = 0 from rfl), L.1]
        by_cases z : c.1 4 l 6 = 0
        · rw [if_pos z, if_pos z]; exact ⟨_, c, m, rfl, rfl, RY⟩
        · rw [if_neg z, if_neg z]; exact ⟨_, c, m, rfl, rfl, RY⟩
      · exact ⟨v, c, m, by simp [p1], by simp [p2], RY⟩
      · cases h11 : c.2.2 4 l 11 with
        | none => exact ⟨-1, c, m, by simp, by simp [rf], RY⟩
        | some i =>
          obtain ⟨s1, s2, s3, s4, s5⟩ := l_call hf R.1.1 ((R.1.1.2.2.1.2.2.2.2.2.2.2.2.2.2.2.2.2.2.2.2.2.1) l i h11).2.2.1
          have er : rf f (some i) = f i := rfl
          rw [er] at s4 ⊢
          exact ⟨c.1 0 i 9, c, m, by simp, by simp [s4, g_t s3, s1], RY⟩
      · cases h12 : c.2.2 4 l 12 with
        | none => exact ⟨0, c, m, by simp, by simp [rf], RY⟩
        | some i =>
          obtain ⟨s1, s2, s3, s4, s5⟩ := l_call hf R.1.1 ((R.1.1.2.2.1.2.2.2.2.2.2.2.2.2.2.2.2.2.2.2.2.2.2.1) l i h12).2.2.1
          have er : rf f (some i) = f i := rfl
          rw [er] at s4 ⊢
          by_cases z : c.1 0 i 9 = 2
          · exact ⟨1, c, m, by simp [z], by simp [s4, g_t s3, s1, z], RY⟩
          · exact ⟨2, c, m, by simp [z], by simp [s4, g_t s3, s1, z], RY⟩
      · exact ⟨_, c, m, by simp; rfl, by simp [L.2.2.2.2.2.2.1], RY⟩
      · have e7 := L.2.2.2.2.2.2.2.2.1
        by_cases z : c.1 4 l 7 = 0
        · exact ⟨0, c, m, by simp [z], by simp [e7, z], RY⟩
        · exact ⟨1, c, m, by simp [z], by simp [e7, z], RY⟩
      · exact ⟨_, c, m, by simp; rfl, by simp [L.2.2.2.2.2.2.2.2.2.2.1], RY⟩
      · cases h11 : c.2.2 4 l 11 with
        | none => exact ⟨0, c, m, by simp, by simp [rf], RY⟩
        | some i =>
          obtain ⟨s1, s2, s3, s4, K, k1, k2, k3, k4⟩ := l_call hf R.1.1 ((R.1.1.2.2.1.2.2.2.2.2.2.2.2.2.2.2.2.2.2.2.2.2.1) l i h11).2.2.1
          have er : rf f (some i) = f i := rfl
          rw [er] at s4 ⊢
          exact ⟨(K.length : Int), c, m, by simp [k2, f_countOf k1], by simp [s4, g_t s3, k3], RY⟩
      · exact ⟨_, c, m, by simp; rfl, by simp [L.2.2.2.2.2.1], RY⟩
    · have n : w ≠ 0 ∧ w ≠ 1 ∧ w ≠ 2 ∧ w ≠ 3 ∧ w ≠ 4 ∧ w ≠ 5 ∧ w ≠ 6 ∧ w ≠ 7 ∧ w ≠ 8 := by omega
      rw [if_neg (c := 0 ≤ w ∧ w ≤ 8) h2, if_pos (show (0 : Int) = 0 from rfl), g_t g, if_neg n.1, if_neg n.2.1, if_neg n.2.2.1, if_neg n.2.2.2.1, if_neg n.2.2.2.2.1, if_neg n.2.2.2.2.2.1, if_neg n.2.2.2.2.2.2.1, if_neg n.2.2.2.2.2.2.2.1, if_neg n.2.2.2.2.2.2.2.2]
      exact ⟨_, c, m, rfl, rfl, r_y0 R⟩
  · rw [if_neg (c := 0 ≤ l ∧ l ≤ 15) h1, if_pos (show (0 : Int) = 0 from rfl), if_pos (show (0 : Int) = 0 from rfl)]
    exact ⟨_, c, m, rfl, rfl, r_y0 R⟩
end RP1
