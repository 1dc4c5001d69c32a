/-! ===== setting: tariffs, keys ===== -/
theorem rL_s (h : JM) (k : Nat) (n j v : Int) : (sL h k n j v).2.1 k n j = v := if_pos ⟨rfl, rfl, rfl⟩
theorem rL_o {h : JM} {k : Nat} {n j v : Int} {k' : Nat} {n' j' : Int} (q : k' ≠ k ∨ n' ≠ n ∨ j' ≠ j) : (sL h k n j v).2.1 k' n' j' = h.2.1 k' n' j' := if_neg (fun z => by rcases q with w | w | w; exact w z.1; exact w z.2.1; exact w z.2.2)
section RM
variable {f : Int → Int} {N : Int} {c m c' m' : JM} {B : Int}
theorem f_tar {z a b d e : Int} (hz : 0 ≤ z ∧ z ≤ 3) (c : JM) : F3_setTariff z a b d e c = some (sI (sI (sI (sI c 26 0 (4 * z) a) 26 0 (4 * z + 1) b) 26 0 (4 * z + 2) d) 26 0 (4 * z + 3) e) := by
  have e0 : w32 (z * 4) = 4 * z := by rw [w32_of (by omega) (by omega)]; omega
  unfold F3_setTariff
  rw [e0, lt_d, w32_of (x := 4 * z + 1) (by omega) (by omega), w32_of (x := 4 * z + 2) (by omega) (by omega), w32_of (x := 4 * z + 3) (by omega) (by omega), g_t (by omega), lt_d, g_t (by omega), lt_d, g_t (by omega), lt_d, g_t (by omega), lt_d]
theorem a_tariff (hf : f_ok f) (R : r_x f N B c m) (z a b d e : Int) : ∃ v c' m', F11_tariff z a b d e c = some (v, c') ∧ F12_tariff z a b d e m = some (v, m') ∧ r_y f N B c m c' m' := by
  unfold F11_tariff F11_tariff_55 F12_tariff F12_tariff_62
  rw [f_within, m_in, Option.bind_some, Option.bind_some]
  dsimp only
  by_cases h1 : 0 ≤ z ∧ z ≤ 3
  · rw [if_pos (c := 0 ≤ z ∧ z ≤ 3) h1, if_neg (show ¬ (1 : Int) = 0 by decide), if_neg (show ¬ (1 : Int) = 0 by decide)]
    rw [f_within, m_in, Option.bind_some, Option.bind_some]
    dsimp only
    by_cases h2 : 0 ≤ a ∧ a ≤ 10000
    · rw [if_pos (c := 0 ≤ a ∧ a ≤ 10000) h2, if_neg (show ¬ (1 : Int) = 0 by decide), if_neg (show ¬ (1 : Int) = 0 by decide)]
      rw [f_within, m_in, Option.bind_some, Option.bind_some]
      dsimp only
      by_cases h3 : 1 ≤ b ∧ b ≤ 1000
      · rw [if_pos (c := 1 ≤ b ∧ b ≤ 1000) h3, if_neg (show ¬ (1 : Int) = 0 by decide), if_neg (show ¬ (1 : Int) = 0 by decide)]
        rw [f_within, m_in, Option.bind_some, Option.bind_some]
        dsimp only
        by_cases h4 : 0 ≤ d ∧ d ≤ 200
        · rw [if_pos (c := 0 ≤ d ∧ d ≤ 200) h4, if_neg (show ¬ (1 : Int) = 0 by decide), if_neg (show ¬ (1 : Int) = 0 by decide)]
          rw [f_within, m_in, Option.bind_some, Option.bind_some]
          dsimp only
          by_cases h5 : 0 ≤ e ∧ e ≤ 200
          · rw [if_pos (c := 0 ≤ e ∧ e ≤ 200) h5, if_neg (show ¬ (1 : Int) = 0 by decide), if_neg (show ¬ (1 : Int) = 0 by decide)]
            have g : 0 ≤ z ∧ z < 4 := by omega
            rw [f_tar h1, Option.bind_some, g_t g, lt_d, g_t g, lt_d, g_t g, lt_d, g_t g, lt_d]
            have sc : so w_tf c (sI (sI (sI (sI c 26 0 (4 * z) a) 26 0 (4 * z + 1) b) 26 0 (4 * z + 2) d) 26 0 (4 * z + 3) e) := so_I (so_I (so_I (so_I (so_rfl c) (by simp [w_tf]) _ _) (by simp [w_tf]) _ _) (by simp [w_tf]) _ _) (by simp [w_tf]) _ _
            have sm : so w_tfm m (sI (sI (sI (sI m 186 0 z a) 187 0 z b) 188 0 z d) 189 0 z e) := so_I (so_I (so_I (so_I (so_rfl m) (by simp [w_tfm]) _ _) (by simp [w_tfm]) _ _) (by simp [w_tfm]) _ _) (by simp [w_tfm]) _ _
            obtain ⟨G1, G2, G3⟩ := R.1.1.2.2.2.2.2.2.2.1
            refine ⟨_, _, _, rfl, rfl, x_tf hf R sc sm ⟨fun z' a' b' => ?_, ?_, ?_⟩⟩
            · have t := G1 z' a' b'
              simp only [rI_I]
              by_cases q : z' = z
              · subst q; simp; omega
              · repeat rw [if_neg (by omega)]
                exact t
            · simpa [rI_I] using G2
            · simpa [rI_I] using G3
          · rw [if_neg (c := 0 ≤ e ∧ e ≤ 200) h5, if_pos (show (0 : Int) = 0 from rfl), if_pos (show (0 : Int) = 0 from rfl)]
            exact ⟨_, c, m, rfl, rfl, r_y0 R⟩
        · rw [if_neg (c := 0 ≤ d ∧ d ≤ 200) h4, if_pos (show (0 : Int) = 0 from rfl), if_pos (show (0 : Int) = 0 from rfl)]
          exact ⟨_, c, m, rfl, rfl, r_y0 R⟩
      · rw [if_neg (c := 1 ≤ b ∧ b ≤ 1000) h3, if_pos (show (0 : Int) = 0 from rfl), if_pos (show (0 : Int) = 0 from rfl)]
        exact ⟨_, c, m, rfl, rfl, r_y0 R⟩
    · rw [if_neg (c := 0 ≤ a ∧ a ≤ 10000) h2, if_pos (show (0 : Int) = 0 from rfl), if_pos (show (0 : Int) = 0 from rfl)]
      exact ⟨_, c, m, rfl, rfl, r_y0 R⟩
  · rw [if_neg (c := 0 ≤ z ∧ z ≤ 3) h1, if_pos (show (0 : Int) = 0 from rfl), if_pos (show (0 : Int) = 0 from rfl)]
    exact ⟨_, c, m, rfl, rfl, r_y0 R⟩
theorem a_dial (hf : f_ok f) (R : r_x f N B c m) (l x : Int) : ∃ v c' m', F11_dial l x c = some (v, c') ∧ F12_dial l x m = some (v, m') ∧ r_y f N B c m c' m' := by
  unfold F11_dial F11_dial_29 F12_dial F12_dial_28
  rw [f_isL, m_isL2, Option.bind_some, Option.bind_some]
  dsimp only
  by_cases h1 : 0 ≤ l ∧ l ≤ 15
  · rw [if_pos (c := 0 ≤ l ∧ l ≤ 15) h1, if_neg (show ¬ (1 : Int) = 0 by decide), if_neg (show ¬ (1 : Int) = 0 by decide)]
    rw [f_within, m_in, Option.bind_some, Option.bind_some]
    dsimp only
    by_cases h2 : 0 ≤ x ∧ x ≤ 11
    · rw [if_pos (c := 0 ≤ x ∧ x ≤ 11) h2, if_neg (show ¬ (1 : Int) = 0 by decide), if_neg (show ¬ (1 : Int) = 0 by decide)]
      have g : 0 ≤ l ∧ l < 16 := by omega
      have L := R.1.1.2.1 l
      have D := R.1.2.1
      have e6 : m.1 112 0 l = c.1 4 l 6 := L.1
      have e4 : m.1 118 0 l = c.1 4 l 4 := L.2.2.2.2.2.1
      have hn : 0 ≤ c.1 4 l 4 ∧ c.1 4 l 4 ≤ 20 := (D l g.1 g.2).2.2.1
      simp only [g_t g]
      rw [e6]
      by_cases h3 : c.1 4 l 6 = 0
      · rw [if_pos h3, if_pos h3]; exact ⟨_, c, m, rfl, rfl, r_y0 R⟩
      · rw [if_neg h3, if_neg h3, e4]
        by_cases h4 : c.1 4 l 4 < 20
        · have hn2 : 0 ≤ c.1 4 l 4 ∧ c.1 4 l 4 < 20 := by omega
          have eb : j_i2b (j_i2b x) = x := by rw [i2b_of (x := x) (by omega) (by omega), i2b_of (by omega) (by omega)]
          have w1 : w32 (w32 (20 * l) + c.1 4 l 4) = 20 * l + c.1 4 l 4 := by rw [w32_of (x := 20 * l) (by omega) (by omega), w32_of (by omega) (by omega)]
          have w2 : w32 (c.1 4 l 4 + 1) = c.1 4 l 4 + 1 := w32_of (by omega) (by omega)
          have k4 : (sI c 30 l (c.1 4 l 4) x).1 4 l 4 = c.1 4 l 4 := by rw [rI_I, if_neg (fun z => absurd z.1 (by decide))]
          rw [if_pos h4, if_neg (show ¬ c.1 4 l 4 = 20 by omega), g_t hn2, eb, lt_d, lt_d, k4, w2, w1, lt_d, g_t (show 0 ≤ 20 * l + c.1 4 l 4 ∧ 20 * l + c.1 4 l 4 < 320 by omega), lt_d]
          have sc : so w_di c (sI (sI c 30 l (c.1 4 l 4) x) 4 l 4 (c.1 4 l 4 + 1)) := so_I (so_I (so_rfl c) (by simp [w_di]) _ _) (by simp [w_di]) _ _
          have sm : so w_dim m (sI (sI m 118 0 l (c.1 4 l 4 + 1)) 117 0 (20 * l + c.1 4 l 4) x) := so_I (so_I (so_rfl m) (by simp [w_dim]) _ _) (by simp [w_dim]) _ _
          refine ⟨c.1 4 l 4 + 1, _, _, by rw [rI_I, if_pos ⟨rfl, rfl, rfl⟩], by rw [rI_I, if_neg (fun z => absurd z.1 (by decide)), rI_I, if_pos ⟨rfl, rfl, rfl⟩], x_di hf R sc sm (fun l' => ?_) (fun l' a b => ?_)⟩
          · have q := R.1.1.2.1 l'
            simp only [rI_I]
            by_cases z : l' = l
            · subst z; obtain ⟨a1, a2, a3, a4, a5, a6, a7, a8, a9, a10, a11, a12, a13⟩ := q; simp [a1, a2, a3, a4, a5, a7, a8, a9, a11, a12, a13]; exact fun x y => a10 x y
            · simpa [z] using q
          · obtain ⟨q1, q2, q3, q4⟩ := D l' a b
            by_cases z : l' = l
            · subst z
              refine ⟨by simpa [rI_I] using q1, by simpa [rI_I] using q2, ?_, fun j j0 j1 => ?_⟩
              · rw [rI_I, if_pos ⟨rfl, rfl, rfl⟩]; omega
              · rw [rI_I, if_pos ⟨rfl, rfl, rfl⟩] at j1
                rw [rI_o (Or.inl (by decide))]
                by_cases y : j = c.1 4 l' 4
                · rw [y, rI_s, rI_s]; exact ⟨rfl, by omega, by omega⟩
                · rw [rI_o (Or.inr (Or.inr y)), rI_o (Or.inr (Or.inr (by omega))), rI_o (Or.inl (by decide))]
                  exact q4 j j0 (by omega)
            · refine ⟨by simpa [rI_I, z] using q1, by simpa [rI_I, z] using q2, by simpa [rI_I, z] using q3, fun j j0 j1 => ?_⟩
              rw [rI_I, if_neg (fun y => z y.2.1), rI_I, if_neg (fun y => absurd y.1 (by decide))] at j1
              rw [rI_o (Or.inr (Or.inl z)), rI_o (Or.inr (Or.inl z)), rI_o (Or.inr (Or.inr (by omega))), rI_o (Or.inl (by decide))]
              exact q4 j j0 j1
        · rw [if_neg h4, if_pos (show c.1 4 l 4 = 20 by omega)]
          exact ⟨_, c, m, rfl, rfl, r_y0 R⟩
    · rw [if_neg (c := 0 ≤ x ∧ x ≤ 11) h2, if_pos (show (0 : Int) = 0 from rfl), if_pos (show (0 : Int) = 0 from rfl)]
      exact ⟨_, c, m, rfl, rfl, r_y0 R⟩
  · rw [if_neg (c := 0 ≤ l ∧ l ≤ 15) h1, if_pos (show (0 : Int) = 0 from rfl), if_pos (show (0 : Int) = 0 from rfl)]
    exact ⟨_, c, m, rfl, rfl, r_y0 R⟩
theorem a_keyless (hf : f_ok f) (R : r_x f N B c m)  : ∃ v c' m', F11_keyless  c = some (v, c') ∧ F12_keyless  m = some (v, m') ∧ r_y f N B c m c' m' := by
  unfold F11_keyless F12_keyless
  obtain ⟨K, hK, e1, e2, e3⟩ := R.2.1
  rw [e1, f_countOf hK, Option.bind_some, lt_d, lt_d, lt_d, e2]
  have sc : so w_ke c (sL c 11 0 9 0) := so_L (so_rfl c) rfl _ _
  have sm : so w_kem m (sI m 12 0 4 0) := so_I (so_rfl m) rfl _ _
  refine ⟨_, _, _, rfl, rfl, x_ke hf R sc sm ⟨[], ⟨by simp, fun _ q => by cases q⟩, ?_, ?_, fun j hj => absurd hj (by simp)⟩⟩
  · rw [rL_s]; rfl
  · rw [rI_s]; rfl
theorem a_key (hf : f_ok f) (R : r_x f N B c m) (x : Int) : ∃ v c' m', F11_key x c = some (v, c') ∧ F12_key x m = some (v, m') ∧ r_y f N B c m c' m' := by
  unfold F11_key F12_key
  rw [f_within, m_in, Option.bind_some, Option.bind_some]
  dsimp only
  by_cases h1 : 0 ≤ x ∧ x ≤ 11
  · rw [if_pos (c := 0 ≤ x ∧ x ≤ 11) h1, if_neg (show ¬ (1 : Int) = 0 by decide), if_neg (show ¬ (1 : Int) = 0 by decide)]
    obtain ⟨K, hK, e1, e2, e3⟩ := R.2.1
    replace e3 : ∀ j : Nat, j < K.length → m.1 103 0 (j : Int) = (K.getD j 0 : Int) := e3
    have hl := hK.1
    rw [e1, f_countOf hK, Option.bind_some, e2]
    dsimp only
    by_cases h2 : K.length < 12
    · obtain ⟨k, rfl⟩ := Int.eq_ofNat_of_zero_le h1.1
      have hk : k < 12 := by omega
      have s1 : (sL c 11 0 9 ((k_P (K ++ [k]) : Nat) : Int)).2.1 11 0 9 = ((k_P (K ++ [k]) : Nat) : Int) := rL_s _ _ _ _ _
      have w2 : w32 ((K.length : Int) + 1) = (K.length : Int) + 1 := w32_of (by omega) (by omega)
      rw [if_pos (show (K.length : Int) < 12 by omega), if_neg (show ¬ (K.length : Int) = 12 by omega), e1, f_withKey hK h2 hk, Option.bind_some, lt_d]
      dsimp only
      rw [s1, f_countOf (k_oka hK h2 hk), Option.bind_some, w2, lt_d, g_t (by omega), lt_d]
      have sc : so w_ke c (sL c 11 0 9 ((k_P (K ++ [k]) : Nat) : Int)) := so_L (so_rfl c) rfl _ _
      have sm : so w_kem m (sI (sI m 12 0 4 ((K.length : Int) + 1)) 103 0 (K.length : Int) (k : Int)) := so_I (so_I (so_rfl m) rfl _ _) (by simp [w_kem]) _ _
      have e4 : (sI (sI m 12 0 4 ((K.length : Int) + 1)) 103 0 (K.length : Int) (k : Int)).1 12 0 4 = (((K ++ [k]).length : Nat) : Int) := by
        rw [rI_I, if_neg (fun z => absurd z.1 (by decide)), rI_I, if_pos ⟨rfl, rfl, rfl⟩, List.length_append]; rfl
      refine ⟨_, _, _, rfl, by rw [e4], x_ke hf R sc sm ⟨K ++ [k], k_oka hK h2 hk, s1, e4, fun j hj => ?_⟩⟩
      rw [List.length_append] at hj
      have hj2 : j < K.length + 1 := hj
      show (sI (sI m 12 0 4 ((K.length : Int) + 1)) 103 0 (K.length : Int) (k : Int)).1 103 0 (j : Int) = _
      rw [rI_I]
      by_cases y : j = K.length
      · rw [if_pos ⟨rfl, rfl, by rw [y]⟩, y]; simp
      · rw [if_neg (fun z => absurd z.2.2 (by omega)), rI_I, if_neg (fun z => absurd z.1 (by decide)), e3 j (by omega), List.getD_eq_getElem?_getD, List.getD_eq_getElem?_getD, List.getElem?_append_left (by omega)]
    · rw [if_neg (show ¬ (K.length : Int) < 12 by omega), if_pos (show (K.length : Int) = 12 by omega)]
      exact ⟨_, c, m, rfl, rfl, r_y0 R⟩
  · rw [if_neg (c := 0 ≤ x ∧ x ≤ 11) h1, if_pos (show (0 : Int) = 0 from rfl), if_pos (show (0 : Int) = 0 from rfl)]
    exact ⟨_, c, m, rfl, rfl, r_y0 R⟩
end RM
