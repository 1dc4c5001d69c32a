/-! ===== a unit is filled, the reference ===== -/
section SP
variable {f : Int → Int} {N z1 z2 X : Int} {sec : Option Int} {Y zd : Int} {c m c' m' : JM} {B B' : Int} {H : HT}
theorem m_fill {e X2 X3 : Int} (he : e = 0 ∨ e = 1) (i1 : 0 ≤ c.1 5 e 1) (i2 : c.1 5 e 1 ≤ c.1 5 e 2) (i3 : c.1 5 e 2 ≤ c.1 5 e 3) (i4 : c.1 5 e 3 ≤ c.1 5 e 0) (i5 : c.1 5 e 0 < 1000000000) (i7 : 0 ≤ c.1 5 e 4 ∧ c.1 5 e 4 < 1000000000) (hX2 : X2 = if c.1 5 e 2 < c.1 5 e 0 ∧ c.1 5 e 2 < c.1 5 e 1 + 100 then c.1 5 e 2 + 1 else c.1 5 e 2) (hX3 : X3 = if c.1 5 e 3 < X2 then X2 else c.1 5 e 3) (m0 : m.1 160 0 e = c.1 5 e 0) (m1 : m.1 161 0 e = c.1 5 e 1) (m2 : m.1 162 0 e = c.1 5 e 2) (m3 : m.1 163 0 e = c.1 5 e 3) : ∃ m1 s0, F12_sends e m = F12_sends_106 e s0 (256 * e + c.1 5 e 2 % 256) m1 ∧ (s0 = if c.1 5 e 2 < c.1 5 e 0 ∧ c.1 5 e 2 < c.1 5 e 1 + 100 then 1 else 0) ∧ so w_om m m1 ∧ (∀ k' n' j, m1.1 k' n' j = if k' = 162 ∧ n' = 0 ∧ j = e then X2 else if k' = 163 ∧ n' = 0 ∧ j = e then X3 else m.1 k' n' j) := by
  have he2 : (0 : Int) ≤ e ∧ e < 2 := by omega
  have w100 : w32 (c.1 5 e 1 + 100) = c.1 5 e 1 + 100 := w32_of (by omega) (by omega)
  have jr : j_rem (c.1 5 e 2) 256 = c.1 5 e 2 % 256 := i_rem (by omega) (by omega) (by decide) (by decide)
  have wk : w32 (w32 (256 * e) + c.1 5 e 2 % 256) = 256 * e + c.1 5 e 2 % 256 := by rw [w32_of (x := 256 * e) (by omega) (by omega), w32_of (by omega) (by omega)]
  have w1 : w32 (c.1 5 e 2 + 1) = c.1 5 e 2 + 1 := w32_of (by omega) (by omega)
  have s38a : F12_sends_38 e 0 m = F12_sends_106 e 0 (256 * e + c.1 5 e 2 % 256) m := by
    unfold F12_sends_38
    rw [g_t he2, m2, jr, wk, lt_d, if_pos rfl]
  have s38b : c.1 5 e 2 < c.1 5 e 0 ∧ c.1 5 e 2 < c.1 5 e 1 + 100 → F12_sends_38 e 1 m = F12_sends_106 e 1 (256 * e + c.1 5 e 2 % 256) (sI (sI m 162 0 e X2) 163 0 e X3) := fun z => by
    rw [if_pos z] at hX2
    unfold F12_sends_38 F12_sends_105
    rw [g_t he2, m2, jr, wk, lt_d, if_neg (by decide), g_t he2, g_t he2, w1, lt_d, g_t he2, g_t he2, rI_s, rI_o (by omega), m3, ← hX2]
    by_cases y : c.1 5 e 3 < X2
    · rw [if_pos y] at hX3
      rw [if_neg (by omega), g_t he2, Option.bind_some, g_t he2, lt_d, hX3]
    · rw [if_neg y] at hX3
      rw [if_pos (by omega), g_t he2, Option.bind_some, g_t he2, lt_d, hX3]
  have top : F12_sends e m = if c.1 5 e 2 < c.1 5 e 0 ∧ c.1 5 e 2 < c.1 5 e 1 + 100 then F12_sends_38 e 1 m else F12_sends_38 e 0 m := by
    unfold F12_sends F12_sends_37
    rw [g_t he2, g_t he2, m0, m2]
    by_cases y : c.1 5 e 0 ≤ c.1 5 e 2
    · rw [if_pos y, if_neg (by omega)]
    · rw [if_neg y, g_t he2, g_t he2, m1, w100]
      by_cases z : c.1 5 e 1 + 100 ≤ c.1 5 e 2
      · rw [if_pos z, if_neg (by omega)]
      · rw [if_neg z, if_pos (by omega)]
  by_cases z : c.1 5 e 2 < c.1 5 e 0 ∧ c.1 5 e 2 < c.1 5 e 1 + 100
  · refine ⟨sI (sI m 162 0 e X2) 163 0 e X3, 1, by rw [top, if_pos z, s38b z], by rw [if_pos z], so_I (so_I (so_rfl m) rfl _ _) rfl _ _, fun k' n' j => ?_⟩
    rw [rI_I, rI_I]
    by_cases y2 : k' = 162 ∧ n' = 0 ∧ j = e
    · rw [if_neg (by omega), if_pos y2, if_pos y2]
    · rw [if_neg y2, if_neg y2]
  · have hX2' : X2 = c.1 5 e 2 := by rw [hX2, if_neg z]
    have hX3' : X3 = c.1 5 e 3 := by rw [hX3]; split <;> omega
    refine ⟨m, 0, by rw [top, if_neg z, s38a], by rw [if_neg z], so_rfl m, fun k' n' j => ?_⟩
    by_cases y2 : k' = 162 ∧ n' = 0 ∧ j = e
    · rw [if_pos y2, y2.1, y2.2.1, y2.2.2, m2, hX2']
    · rw [if_neg y2]
      by_cases y3 : k' = 163 ∧ n' = 0 ∧ j = e
      · rw [if_pos y3, y3.1, y3.2.1, y3.2.2, m3, hX3']
      · rw [if_neg y3]
end SP
