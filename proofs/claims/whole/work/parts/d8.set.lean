/-! ===== setting ===== -/
section RL
variable {f : Int → Int} {N : Int} {c m c' m' : JM} {B : Int}
theorem a_credit (hf : f_ok f) (R : r_x f N B c m) (l x : Int) : ∃ v c' m', F11_credit l x c = some (v, c') ∧ F12_credit l x m = some (v, m') ∧ r_y f N B c m c' m' := by
  unfold F11_credit F11_credit_17 F12_credit F12_credit_21
  rw [f_isL, m_isL2, Option.bind_some, Option.bind_some]
  dsimp only
  by_cases h : 0 ≤ l ∧ l ≤ 15
  · rw [if_pos (c := 0 ≤ l ∧ l ≤ 15) h, if_neg (show ¬ (1 : Int) = 0 by decide), if_neg (show ¬ (1 : Int) = 0 by decide)]
    rw [f_within, m_in, Option.bind_some, Option.bind_some]
    dsimp only
    by_cases h2 : -1 ≤ x ∧ x ≤ 1000000
    · rw [if_pos (c := -1 ≤ x ∧ x ≤ 1000000) h2, if_neg (show ¬ (1 : Int) = 0 by decide), if_neg (show ¬ (1 : Int) = 0 by decide)]
      have g : 0 ≤ l ∧ l < 16 := by omega
      rw [g_t g, lt_d, g_t g, lt_d, g_t g, lt_d, g_t g, lt_d]
      have e : m.1 126 0 l = c.1 4 l 17 := (R.1.1.2.1 l).2.2.2.2.2.2.2.2.2.2.1
      have sc : so w_cr c (sI c 4 l 17 x) := so_I (so_rfl c) rfl _ _
      have sm : so w_crm m (sI m 126 0 l x) := so_I (so_rfl m) (by simp [w_crm]) _ _
      refine ⟨_, _, _, rfl, by rw [← e], x_cr hf R sc sm (fun l' => ?_)⟩
      have q := R.1.1.2.1 l'
      simp only [rI_I]
      by_cases z : l' = l
      · subst z; obtain ⟨a1, a2, a3, a4, a5, a6, a7, a8, a9, a10, a11, a12, a13⟩ := q; simp [a1, a2, a3, a4, a5, a6, a7, a8, a9, a12, a13]; exact fun x y => a10 x y
      · simpa [z] using q
    · rw [if_neg (c := -1 ≤ x ∧ x ≤ 1000000) h2, if_pos (show (0 : Int) = 0 from rfl), if_pos (show (0 : Int) = 0 from rfl)]
      exact ⟨_, c, m, rfl, rfl, r_y0 R⟩
  · rw [if_neg (c := 0 ≤ l ∧ l ≤ 15) h, if_pos (show (0 : Int) = 0 from rfl), if_pos (show (0 : Int) = 0 from rfl)]
    exact ⟨_, c, m, rfl, rfl, r_y0 R⟩
theorem a_feature (hf : f_ok f) (R : r_x f N B c m) (l w x : Int) (hx : x = 0 ∨ x = 1) : ∃ v c' m', F11_feature l w x c = some (v, c') ∧ F12_feature l w x m = some (v, m') ∧ r_y f N B c m c' m' := by
  unfold F11_feature F11_feature_16 F12_feature F12_feature_19
  rw [f_isL, m_isL2, Option.bind_some, Option.bind_some]
  dsimp only
  by_cases h : 0 ≤ l ∧ l ≤ 15
  · rw [if_pos (c := 0 ≤ l ∧ l ≤ 15) h, if_neg (show ¬ (1 : Int) = 0 by decide), if_neg (show ¬ (1 : Int) = 0 by decide)]
    rw [f_within, m_in, Option.bind_some, Option.bind_some]
    dsimp only
    by_cases h2 : 0 ≤ w ∧ w ≤ 2
    · rw [if_pos (c := 0 ≤ w ∧ w ≤ 2) h2, if_neg (show ¬ (1 : Int) = 0 by decide), if_neg (show ¬ (1 : Int) = 0 by decide)]
      have g : 0 ≤ l ∧ l < 16 := by omega
      have g2 : 0 ≤ w ∧ w < 3 := by omega
      have e3 : w32 (w32 (3 * l) + w) = 3 * l + w := by rw [w32_of (x := 3 * l) (by omega) (by omega), w32_of (by omega) (by omega)]
      rw [e3]
      rw [g_t g, g_t g2, lt_d, g_t g, g_t g2, g_t hx, lt_d, g_t (show 0 ≤ 3 * l + w ∧ 3 * l + w < 48 by omega), lt_d, g_t (show 0 ≤ 3 * l + w ∧ 3 * l + w < 48 by omega), g_t hx, lt_d]
      have F := R.1.1.2.2.2.2.2.2.2.2.2
      have e : m.1 127 0 (3 * l + w) = c.1 28 l w := (F l w g.1 g.2 g2.1 g2.2).1
      have sc : so w_ft c (sI c 28 l w x) := so_I (so_rfl c) (by simp [w_ft]) _ _
      have sm : so w_ftm m (sI m 127 0 (3 * l + w) x) := so_I (so_rfl m) (by simp [w_ftm]) _ _
      have RR : r_y f N B c m (sI c 28 l w x) (sI m 127 0 (3 * l + w) x) := x_ft hf R sc sm (fun l' w' a b d e => by
        have q := F l' w' a b d e
        have k1 : (sI m 127 0 (3 * l + w) x).1 128 = m.1 128 := by funext n j; rw [rI_I, if_neg (fun z => absurd z.1 (by decide))]
        have k2 : (sI m 127 0 (3 * l + w) x).1 129 = m.1 129 := by funext n j; rw [rI_I, if_neg (fun z => absurd z.1 (by decide))]
        rw [k1, k2, rI_L]
        simp only [rI_I]
        by_cases z : l' = l ∧ w' = w
        · obtain ⟨z1, z2⟩ := z; subst z1; subst z2; exact ⟨by simp, by simpa using hx, q.2.2⟩
        · rw [if_neg (by omega), if_neg (by omega)]; exact q)
      rw [e]
      by_cases q : c.1 28 l w = 0
      · rw [if_pos q, if_pos q]; exact ⟨_, _, _, rfl, rfl, RR⟩
      · rw [if_neg q, if_neg q]; exact ⟨_, _, _, rfl, rfl, RR⟩
    · rw [if_neg (c := 0 ≤ w ∧ w ≤ 2) h2, if_pos (show (0 : Int) = 0 from rfl), if_pos (show (0 : Int) = 0 from rfl)]
      exact ⟨_, c, m, rfl, rfl, r_y0 R⟩
  · rw [if_neg (c := 0 ≤ l ∧ l ≤ 15) h, if_pos (show (0 : Int) = 0 from rfl), if_pos (show (0 : Int) = 0 from rfl)]
    exact ⟨_, c, m, rfl, rfl, r_y0 R⟩
theorem a_waiting (hf : f_ok f) (R : r_x f N B c m) (e g x : Int) : ∃ v c' m', F11_waiting e g x c = some (v, c') ∧ F12_waiting e g x m = some (v, m') ∧ r_y f N B c m c' m' := by
  unfold F11_waiting F11_waiting_26 F12_waiting F12_waiting_34
  rw [f_exch, m_in, Option.bind_some, Option.bind_some]
  dsimp only
  by_cases h : 0 ≤ e ∧ e ≤ 1
  · rw [if_pos (c := 0 ≤ e ∧ e ≤ 1) h, if_neg (show ¬ (1 : Int) = 0 by decide), if_neg (show ¬ (1 : Int) = 0 by decide)]
    rw [f_within, m_in, Option.bind_some, Option.bind_some]
    dsimp only
    by_cases h2 : 0 ≤ g ∧ g ≤ 2
    · rw [if_pos (c := 0 ≤ g ∧ g ≤ 2) h2, if_neg (show ¬ (1 : Int) = 0 by decide), if_neg (show ¬ (1 : Int) = 0 by decide)]
      rw [f_within, m_in, Option.bind_some, Option.bind_some]
      dsimp only
      by_cases h3 : 0 ≤ x ∧ x ≤ 10
      · rw [if_pos (c := 0 ≤ x ∧ x ≤ 10) h3, if_neg (show ¬ (1 : Int) = 0 by decide), if_neg (show ¬ (1 : Int) = 0 by decide)]
        have w : w32 (w32 (3 * e) + g) = 3 * e + g := by rw [w32_of (x := 3 * e) (by omega) (by omega), w32_of (by omega) (by omega)]
        rw [g_t (by omega), g_t (by omega), lt_d, lt_d, w, lt_d, g_t (by omega), lt_d, g_t (by omega), lt_d]
        obtain ⟨q1, q2, q3, q4, q5, q6⟩ := R.1.1.2.2.2.2.1
        have e1 : m.1 151 0 (3 * e + g) = c.1 2 (3 * e + g) 2 := (q1 _).2.1
        have sc : so w_wt c (sI c 2 (3 * e + g) 2 x) := so_I (so_rfl c) rfl _ _
        have sm : so w_wtm m (sI m 151 0 (3 * e + g) x) := so_I (so_rfl m) (by simp [w_wtm]) _ _
        refine ⟨_, _, _, rfl, by rw [← e1], x_wt hf R sc sm ⟨fun q => ?_, ?_, ?_, ?_, ?_, fun q a b => ?_⟩⟩
        · have t := q1 q
          simp only [rI_I]
          by_cases z : q = 3 * e + g
          · simp [z]; rw [z] at t; exact ⟨t.1, t.2.2⟩
          · simpa [z] using t
        · simpa [lv, rI_I, rI_L, rI_R] using q2
        · simpa [lv, rI_I, rI_L, rI_R] using q3
        · simpa [lv, rI_I, rI_L, rI_R] using q4
        · simpa [lv, rI_I, rI_L, rI_R] using q5
        · have t := q6 q a b
          simp only [rI_I]
          by_cases z : q = 3 * e + g
          · simp [z]; rw [z] at t; omega
          · simpa [z] using t
      · rw [if_neg (c := 0 ≤ x ∧ x ≤ 10) h3, if_pos (show (0 : Int) = 0 from rfl), if_pos (show (0 : Int) = 0 from rfl)]
        exact ⟨_, c, m, rfl, rfl, r_y0 R⟩
    · rw [if_neg (c := 0 ≤ g ∧ g ≤ 2) h2, if_pos (show (0 : Int) = 0 from rfl), if_pos (show (0 : Int) = 0 from rfl)]
      exact ⟨_, c, m, rfl, rfl, r_y0 R⟩
  · rw [if_neg (c := 0 ≤ e ∧ e ≤ 1) h, if_pos (show (0 : Int) = 0 from rfl), if_pos (show (0 : Int) = 0 from rfl)]
    exact ⟨_, c, m, rfl, rfl, r_y0 R⟩
end RL
