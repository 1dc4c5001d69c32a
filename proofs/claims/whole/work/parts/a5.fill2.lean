/-! ===== a unit is filled, each side ===== -/
section SP
variable {f : Int → Int} {N z1 z2 X : Int} {sec : Option Int} {Y zd : Int} {c m c' m' : JM} {B B' : Int} {H : HT}
theorem f_fl78 {e u X2 X3 : Int} (h : JM) (x : Int) (q2 : 0 ≤ X2 ∧ X2 < 1000000000) (q4 : 0 ≤ c.1 5 e 4 ∧ c.1 5 e 4 < 1000000000) (h5 : ∀ n j, h.1 5 n j = if n = e ∧ j = 2 then X2 else if n = e ∧ j = 3 then X3 else c.1 5 n j) (ho : ∀ k' n' j, k' ≠ 5 → h.1 k' n' j = c.1 k' n' j) (hL : ∀ k' n' j, h.2.1 k' n' j = if k' = 9 ∧ n' = u ∧ j = 4 then x else c.2.1 k' n' j) (hR : h.2.2 = c.2.2) : ∃ c1, F5_fill_78 e (some u) h = some c1 ∧ (c1.1 9 u 0 = c.1 5 e 4 % 128 ∧ c1.1 9 u 1 = c.1 5 e 6 ∧ c1.1 9 u 2 = X2 % 128 ∧ c1.1 9 u 3 = c.1 5 e 5 ∧ c1.1 9 u 5 = 0 ∧ c1.2.1 9 u 4 = x) ∧ (∀ n j, c1.1 5 n j = if n = e ∧ j = 2 then X2 else if n = e ∧ j = 3 then X3 else c.1 5 n j) ∧ (∀ k' n' j, (k' ≠ 5 ∧ k' ≠ 9) ∨ (k' = 9 ∧ n' ≠ u) → c1.1 k' n' j = c.1 k' n' j ∧ c1.2.1 k' n' j = c.2.1 k' n' j) ∧ (∀ k' n' j, k' ≠ 9 → c1.2.1 k' n' j = c.2.1 k' n' j) ∧ c1.2.2 = c.2.2 := by
  have e2 : h.1 5 e 2 = X2 := by rw [h5, if_pos ⟨rfl, rfl⟩]
  have e4 : h.1 5 e 4 = c.1 5 e 4 := by rw [h5, if_neg (by omega), if_neg (by omega)]
  have e5 : h.1 5 e 5 = c.1 5 e 5 := by rw [h5, if_neg (by omega), if_neg (by omega)]
  have e6 : h.1 5 e 6 = c.1 5 e 6 := by rw [h5, if_neg (by omega), if_neg (by omega)]
  have j2 : j_and X2 127 = X2 % 128 := i_and (by omega) (by omega) 7 rfl
  have j4 : j_and (c.1 5 e 4) 127 = c.1 5 e 4 % 128 := i_and (by omega) (by omega) 7 rfl
  unfold F5_fill_78
  rw [Option.bind_some]
  simp only [lt_d]
  rw [e2, j2, rI_o (by omega), e4, j4, rI_o (by omega), rI_o (by omega), e5, rI_o (by omega), rI_o (by omega), rI_o (by omega), e6]
  refine ⟨_, rfl, ⟨?_, ?_, ?_, ?_, ?_, ?_⟩, fun n j => ?_, fun k' n' j q => ⟨?_, ?_⟩, fun k' n' j q => ?_, hR⟩
  · simp [rI_I]
  · simp [rI_I]
  · simp [rI_I]
  · simp [rI_I]
  · simp [rI_I]
  · show h.2.1 9 u 4 = x
    rw [hL, if_pos ⟨rfl, rfl, rfl⟩]
  · rw [rI_o (by omega), rI_o (by omega), rI_o (by omega), rI_o (by omega), rI_o (by omega), h5]
  · rw [rI_o (by omega), rI_o (by omega), rI_o (by omega), rI_o (by omega), rI_o (by omega)]; exact ho k' n' j (by omega)
  · show h.2.1 k' n' j = _
    rw [hL, if_neg (by omega)]
  · show h.2.1 k' n' j = _
    rw [hL, if_neg (by omega)]
theorem f_fill {e u X2 X3 : Int} (he : e = 0 ∨ e = 1) (i1 : 0 ≤ c.1 5 e 1) (i2 : c.1 5 e 1 ≤ c.1 5 e 2) (i3 : c.1 5 e 2 ≤ c.1 5 e 3) (i4 : c.1 5 e 3 ≤ c.1 5 e 0) (i5 : c.1 5 e 0 < 1000000000) (i7 : 0 ≤ c.1 5 e 4 ∧ c.1 5 e 4 < 1000000000) (hX2 : X2 = if c.1 5 e 2 < c.1 5 e 0 ∧ c.1 5 e 2 < c.1 5 e 1 + 100 then c.1 5 e 2 + 1 else c.1 5 e 2) (hX3 : X3 = if c.1 5 e 3 < X2 then X2 else c.1 5 e 3) : ∃ c1, F5_fill e (some u) c = some c1 ∧ (c1.1 9 u 0 = c.1 5 e 4 % 128 ∧ c1.1 9 u 1 = c.1 5 e 6 ∧ c1.1 9 u 2 = X2 % 128 ∧ c1.1 9 u 3 = c.1 5 e 5 ∧ c1.1 9 u 5 = 0 ∧ c1.2.1 9 u 4 = (if c.1 5 e 2 < c.1 5 e 0 ∧ c.1 5 e 2 < c.1 5 e 1 + 100 then c.2.1 31 e (c.1 5 e 2 % 200) else -1)) ∧ (∀ n j, c1.1 5 n j = if n = e ∧ j = 2 then X2 else if n = e ∧ j = 3 then X3 else c.1 5 n j) ∧ (∀ k' n' j, (k' ≠ 5 ∧ k' ≠ 9) ∨ (k' = 9 ∧ n' ≠ u) → c1.1 k' n' j = c.1 k' n' j ∧ c1.2.1 k' n' j = c.2.1 k' n' j) ∧ (∀ k' n' j, k' ≠ 9 → c1.2.1 k' n' j = c.2.1 k' n' j) ∧ c1.2.2 = c.2.2 := by
  have w100 : w32 (c.1 5 e 1 + 100) = c.1 5 e 1 + 100 := w32_of (by omega) (by omega)
  have q2 : 0 ≤ X2 ∧ X2 < 1000000000 := by rw [hX2]; split <;> omega
  unfold F5_fill
  rw [Option.bind_some, lt_d, rL_I, w100]
  by_cases z : c.1 5 e 2 < c.1 5 e 0 ∧ c.1 5 e 2 < c.1 5 e 1 + 100
  · have jr : j_rem (c.1 5 e 2) 200 = c.1 5 e 2 % 200 := i_rem (by omega) (by omega) (by decide) (by decide)
    have w1 : w32 (c.1 5 e 2 + 1) = c.1 5 e 2 + 1 := w32_of (by omega) (by omega)
    rw [if_pos z] at hX2
    rw [if_pos z, if_neg (by omega), if_neg (by omega), jr, g_t (by omega), lt_d, rL_L, if_neg (by omega), rL_I, rL_I, w1, lt_d, rI_s, rI_o (by omega), rL_I, rL_I, ← hX2]
    by_cases y : c.1 5 e 3 < X2
    · rw [if_pos y] at hX3
      rw [if_neg (by omega), lt_d]
      refine f_fl78 _ _ q2 i7 (fun n j => ?_) (fun k' n' j q => ?_) (fun k' n' j => ?_) rfl
      · rw [rI_I, rI_I, rL_I, rL_I, hX3]
        by_cases y2 : n = e ∧ j = 2
        · rw [if_neg (by omega), if_pos (by omega), if_pos y2]
        · by_cases y3 : n = e ∧ j = 3
          · rw [if_pos (by omega), if_neg y2, if_pos y3]
          · rw [if_neg (by omega), if_neg (by omega), if_neg y2, if_neg y3]
      · rw [rI_o (by omega), rI_o (by omega)]; rfl
      · rw [rI_L, rI_L, rL_L, rL_L]
        by_cases y : k' = 9 ∧ n' = u ∧ j = 4
        · rw [if_pos y, if_pos y]
        · rw [if_neg y, if_neg y, if_neg y]
    · rw [if_neg y] at hX3
      rw [if_pos (by omega)]
      refine f_fl78 _ _ q2 i7 (fun n j => ?_) (fun k' n' j q => ?_) (fun k' n' j => ?_) rfl
      · rw [rI_I, rL_I, rL_I]
        by_cases y2 : n = e ∧ j = 2
        · rw [if_pos (by omega), if_pos y2]
        · rw [if_neg (by omega), if_neg y2]
          by_cases y3 : n = e ∧ j = 3
          · rw [if_pos y3, y3.1, y3.2, hX3]
          · rw [if_neg y3]
      · rw [rI_o (by omega)]; rfl
      · rw [rI_L, rL_L, rL_L]
        by_cases y : k' = 9 ∧ n' = u ∧ j = 4
        · rw [if_pos y, if_pos y]
        · rw [if_neg y, if_neg y, if_neg y]
  · rw [if_neg z] at hX2
    have hX3' : X3 = c.1 5 e 3 := by rw [hX3]; split <;> omega
    have T := f_fl78 (c := c) (e := e) (u := u) (X2 := X2) (X3 := X3) (sL c 9 u 4 (-1)) (-1) q2 i7 (fun n j => by
      rw [rL_I]
      by_cases y2 : n = e ∧ j = 2
      · rw [if_pos y2, y2.1, y2.2, hX2]
      · rw [if_neg y2]
        by_cases y3 : n = e ∧ j = 3
        · rw [if_pos y3, y3.1, y3.2, hX3']
        · rw [if_neg y3]) (fun k' n' j q => by rw [rL_I]) (fun k' n' j => rL_L _ _ _ _ _ _ _ _) rfl
    rw [if_neg z]
    by_cases y : c.1 5 e 0 ≤ c.1 5 e 2
    · rw [if_pos y]; exact T
    · rw [if_neg y, if_pos (by omega)]; exact T
end SP
