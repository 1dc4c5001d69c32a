/-! ===== what constructors make: an exchange ===== -/
def E1 (e N : Int) (h : JM) : Prop := (h.1 1 e 0 = e ∧ h.1 1 e 4 = 0) ∧ (h.2.2 1 e 1 = some e ∧ h.2.2 1 e 2 = some e ∧ h.2.2 1 e 3 = some e ∧ h.2.2 1 e 5 = some e ∧ h.2.2 1 e 6 = some e ∧ h.2.2 1 e 7 = some e) ∧ (h.1 1020 e 1 = N ∧ h.1 1021 e 1 = 3 ∧ h.1 1022 e 1 = 24 ∧ h.1 1023 e 1 = 2 ∧ h.1 1024 e 1 = 2 ∧ h.1 1031 e 1 = 200 ∧ h.1 1032 e 1 = 64 ∧ h.1 1033 e 1 = 2) ∧ (∀ j, h.1 23 e j = 0) ∧ (∀ j, h.1 5 e j = if j = 5 ∨ j = 6 then 1 else 0) ∧ (h.2.2 5 e 8 = some e ∧ h.2.2 5 e 9 = some e ∧ h.2.2 5 e 10 = some e) ∧ (∀ j, 0 ≤ j → j < 64 → h.2.2 32 e j = some (64 * e + j)) ∧ (∀ j, 0 ≤ j → j < 2 → h.2.2 33 e j = some (128 + 2 * e + j) ∧ h.1 9 (128 + 2 * e + j) 5 = 2) ∧ (∀ j, 0 ≤ j → j < N → Q8 e j h) ∧ (∀ j, 0 ≤ j → j < 3 → Q2 e j h)
section IC
variable {e N : Int} {h : JM}
theorem i1 (he : e = 0 ∨ e = 1) (hN : 1 ≤ N ∧ N ≤ 16) (hz : ∀ k n, P1 e N k n → 1002 ≤ k → h.1 k n 0 ≠ 1) (h4 : h.1 1 e 4 = 0) : ∃ h', F1_init e e N h = some h' ∧ fr (P1 e N) h h' ∧ E1 e N h' := by
  obtain ⟨h0, eh0⟩ : ∃ h0, h0 = (j_nw (sR (j_nw (sR (j_nw (sR (j_nw (sR (j_nw h 21 e 3) 1 e 2 (some e)) 22 e 24) 1 e 3 (some e)) 23 e 2) 1 e 5 (some e)) 24 e 2) 1 e 6 (some e)) 5 e 0) := ⟨_, rfl⟩
  have F0 : fr (P1 e N) h h0 := by
    rw [eh0]
    exact fr_N (fr_R (fr_N (fr_R (fr_N (fr_R (fr_N (fr_R (fr_N (fr_rfl h) (by unfold P1 P88; omega) (by unfold P1; omega) _) (by unfold P1; omega) _ _) (by unfold P1; omega) (by unfold P1; omega) _) (by unfold P1; omega) _ _) (by unfold P1; omega) (by unfold P1; omega) _) (by unfold P1; omega) _ _) (by unfold P1; omega) (by unfold P1; omega) _) (by unfold P1; omega) _ _) (by unfold P1 P5; omega) (by unfold P1; omega) _
  have z0 : ∀ k n, k = 1009 ∨ k = 1031 ∨ k = 1032 ∨ k = 1033 ∨ k = 1008 ∨ k = 1002 ∨ k = 1025 ∨ k = 1020 → h0.1 k n 0 = h.1 k n 0 := fun k n hk => by
    rw [eh0]
    rcases hk with rfl | rfl | rfl | rfl | rfl | rfl | rfl | rfl <;> simp [rI_I, rI_L, rI_R, rL_I, rL_L, rL_R, rR_I, rR_L, rR_R, nN_I, nN_L, nN_R]
  have a1 : h0.1 1 e 4 = 0 := by rw [eh0]; simp [rI_I, rI_L, rI_R, rL_I, rL_L, rL_R, rR_I, rR_L, rR_R, nN_I, nN_L, nN_R, h4]
  have a2 : h0.2.2 1 e 2 = some e ∧ h0.2.2 1 e 3 = some e ∧ h0.2.2 1 e 5 = some e ∧ h0.2.2 1 e 6 = some e := by rw [eh0]; simp [rI_I, rI_L, rI_R, rL_I, rL_L, rL_R, rR_I, rR_L, rR_R, nN_I, nN_L, nN_R]
  have a3 : h0.1 1021 e 1 = 3 ∧ h0.1 1022 e 1 = 24 ∧ h0.1 1023 e 1 = 2 ∧ h0.1 1024 e 1 = 2 := by rw [eh0]; simp [rI_I, rI_L, rI_R, rL_I, rL_L, rL_R, rR_I, rR_L, rR_R, nN_I, nN_L, nN_R]
  have a4 : ∀ j, h0.1 23 e j = 0 := fun j => by rw [eh0]; simp [rI_I, rI_L, rI_R, rL_I, rL_L, rL_R, rR_I, rR_L, rR_R, nN_I, nN_L, nN_R]
  have a5 : ∀ j, h0.1 5 e j = 0 := fun j => by rw [eh0]; simp [rI_I, rI_L, rI_R, rL_I, rL_L, rL_R, rR_I, rR_L, rR_R, nN_I, nN_L, nN_R]
  obtain ⟨h1, y1, y2, y3, y4, y5, y6, y7⟩ := i5 (h := h0) he (by rw [z0 1031 e (by omega)]; exact hz _ _ (by unfold P1 P5; omega) (by omega)) (by rw [z0 1032 e (by omega)]; exact hz _ _ (by unfold P1 P5; omega) (by omega)) (by rw [z0 1033 e (by omega)]; exact hz _ _ (by unfold P1 P5; omega) (by omega)) (fun n q => by rw [z0 1009 n (by omega)]; exact hz _ _ (by unfold P1 P5; omega) (by omega))
  obtain ⟨h2, eh2⟩ : ∃ h2, h2 = sR (j_nw (sI (sR h1 1 e 7 (some e)) 1 e 0 e) 20 e N) 1 e 1 (some e) := ⟨_, rfl⟩
  have F2 : fr (P1 e N) h1 h2 := by
    rw [eh2]
    exact fr_R (fr_N (fr_I (fr_R (fr_rfl h1) (by unfold P1; omega) _ _) (by unfold P1; omega) _ _) (by unfold P1 P61; omega) (by unfold P1; omega) _) (by unfold P1; omega) _ _
  have b0 : ∀ k, k ≠ 1 → k ≠ 20 → k ≠ 1020 → ∀ n j, h2.1 k n j = h1.1 k n j ∧ h2.2.2 k n j = h1.2.2 k n j := fun k k1 k2 k3 n j => by
    rw [eh2]; simp [rI_I, rI_L, rI_R, rL_I, rL_L, rL_R, rR_I, rR_L, rR_R, nN_I, nN_L, nN_R, k1, k2, k3]
  have b1 : h2.1 1 e 0 = e := by rw [eh2]; simp [rI_I, rI_L, rI_R, rL_I, rL_L, rL_R, rR_I, rR_L, rR_R, nN_I, nN_L, nN_R]
  have b2 : h2.1 1 e 4 = 0 := by rw [eh2]; simp [rI_I, rI_L, rI_R, rL_I, rL_L, rL_R, rR_I, rR_L, rR_R, nN_I, nN_L, nN_R]; rw [(y2 1 e (by unfold P5; omega) 4).1, a1]
  have b3 : h2.2.2 1 e 1 = some e ∧ h2.2.2 1 e 7 = some e := by rw [eh2]; simp [rI_I, rI_L, rI_R, rL_I, rL_L, rL_R, rR_I, rR_L, rR_R, nN_I, nN_L, nN_R]
  have b4 : h2.1 1020 e 1 = N := by rw [eh2]; simp [rI_I, rI_L, rI_R, rL_I, rL_L, rL_R, rR_I, rR_L, rR_R, nN_I, nN_L, nN_R]
  have b5 : ∀ j, j = 2 ∨ j = 3 ∨ j = 5 ∨ j = 6 → h2.2.2 1 e j = h0.2.2 1 e j := fun j hj => by
    rw [eh2, ← (y2 1 e (by unfold P5; omega) j).2.2]
    rcases hj with rfl | rfl | rfl | rfl <;> simp [rI_I, rI_L, rI_R, rL_I, rL_L, rL_R, rR_I, rR_L, rR_R, nN_I, nN_L, nN_R]
  obtain ⟨h3, u1, u2, u3⟩ := i61 (hs := h2) he hN (fun n p q => by rw [(b0 1008 (by decide) (by decide) (by decide) n 0).1, (y2 1008 n (by unfold P5; omega) 0).1, z0 1008 n (by omega)]; exact hz _ _ (by unfold P1 P61; omega) (by omega)) b3.1 b4
  obtain ⟨h4', v1, v2, v3⟩ := i88 (hs := h3) he (fun n p q => by
    rw [(u2 1002 n (by unfold P61; omega) 0).1, (b0 1002 (by decide) (by decide) (by decide) n 0).1, (y2 1002 n (by unfold P5; omega) 0).1, z0 1002 n (by omega), (u2 1025 n (by unfold P61; omega) 0).1, (b0 1025 (by decide) (by decide) (by decide) n 0).1, (y2 1025 n (by unfold P5; omega) 0).1, z0 1025 n (by omega)]
    exact ⟨hz _ _ (by unfold P1 P88; omega) (by omega), hz _ _ (by unfold P1 P88; omega) (by omega)⟩) (by rw [(u2 1 e (by unfold P61; omega) 2).2.2, b5 2 (by omega), a2.1]) (by rw [(u2 1021 e (by unfold P61; omega) 1).1, (b0 1021 (by decide) (by decide) (by decide) e 1).1, (y2 1021 e (by unfold P5; omega) 1).1, a3.1])
  -- what is read at the end
  have c0 : ∀ k n j, ¬ P61 e N k n → ¬ P88 e 3 k n → h4'.1 k n j = h2.1 k n j ∧ h4'.2.2 k n j = h2.2.2 k n j := fun k n j p q => by
    have t1 := v2 k n q j
    have t2 := u2 k n p j
    exact ⟨t1.1.trans t2.1, t1.2.2.trans t2.2.2⟩
  have c1 : ∀ k n j, ¬ P61 e N k n → ¬ P88 e 3 k n → k ≠ 1 → k ≠ 1020 → h4'.1 k n j = h1.1 k n j ∧ h4'.2.2 k n j = h1.2.2 k n j := fun k n j p q k1 k2 => by
    by_cases k3 : k = 20
    · have t1 := c0 k n j p q
      have nn : n ≠ e := fun z => p (by unfold P61; omega)
      rw [t1.1, t1.2, eh2]
      simp [rI_I, rI_L, rI_R, rL_I, rL_L, rL_R, rR_I, rR_L, rR_R, nN_I, nN_L, nN_R, k1, k2, nn]
    · have t1 := c0 k n j p q
      have t2 := b0 k k1 k3 k2 n j
      exact ⟨t1.1.trans t2.1, t1.2.trans t2.2⟩
  refine ⟨h4', ?_, ?_, ⟨?_, ?_⟩, ⟨?_, ?_, ?_, ?_, ?_, ?_⟩, ⟨?_, ?_, ?_, ?_, ?_, ?_, ?_, ?_⟩, ?_, ?_, ⟨?_, ?_, ?_⟩, ?_, ?_, ?_, v3⟩
  · have t : (sI (sR h1 1 e 7 (some e)) 1 e 0 e).1 1020 e 0 = h1.1 1020 e 0 := by simp [rI_I, rI_L, rI_R, rL_I, rL_L, rL_R, rR_I, rR_L, rR_R, nN_I, nN_L, nN_R]
    have gz : ¬ (sI (sR h1 1 e 7 (some e)) 1 e 0 e).1 1020 e 0 = 1 ∧ (0 : Int) ≤ N ∧ N ≤ 100 := by
      refine ⟨?_, by omega, by omega⟩
      rw [t, (y2 1020 e (by unfold P5; omega) 0).1, z0 1020 e (by omega)]
      exact hz _ _ (by unfold P1; omega) (by omega)
    unfold F1_init
    rw [g_t (hz 1021 e (by unfold P1; omega) (by omega)), lt_d, lt_d, g_t (by simpa [rI_I, rI_L, rI_R, rL_I, rL_L, rL_R, rR_I, rR_L, rR_R, nN_I, nN_L, nN_R] using hz 1022 e (by unfold P1; omega) (by omega)), lt_d, lt_d, g_t (by simpa [rI_I, rI_L, rI_R, rL_I, rL_L, rL_R, rR_I, rR_L, rR_R, nN_I, nN_L, nN_R] using hz 1023 e (by unfold P1; omega) (by omega)), lt_d, lt_d, g_t (by simpa [rI_I, rI_L, rI_R, rL_I, rL_L, rL_R, rR_I, rR_L, rR_R, nN_I, nN_L, nN_R] using hz 1024 e (by unfold P1; omega) (by omega)), lt_d, lt_d, g_t (by simpa [rI_I, rI_L, rI_R, rL_I, rL_L, rL_R, rR_I, rR_L, rR_R, nN_I, nN_L, nN_R] using hz 1005 e (by unfold P1; omega) (by omega)), lt_d, ← eh0, y1, Option.bind_some, lt_d, lt_d, g_t gz, lt_d, lt_d, ← eh2, u1, v1]
  · exact fr_tr F0 (fr_tr (fr_mono (fun k n q => Or.inl q) y2) (fr_tr F2 (fr_tr (fr_mono (fun k n q => Or.inr (Or.inl q)) u2) (fr_mono (fun k n q => Or.inr (Or.inr (Or.inl q))) v2))))
  · rw [(c0 1 e 0 (by unfold P61; omega) (by unfold P88; omega)).1, b1]
  · rw [(c0 1 e 4 (by unfold P61; omega) (by unfold P88; omega)).1, b2]
  · rw [(c0 1 e 1 (by unfold P61; omega) (by unfold P88; omega)).2, b3.1]
  · rw [(c0 1 e 2 (by unfold P61; omega) (by unfold P88; omega)).2, b5 2 (by omega), a2.1]
  · rw [(c0 1 e 3 (by unfold P61; omega) (by unfold P88; omega)).2, b5 3 (by omega), a2.2.1]
  · rw [(c0 1 e 5 (by unfold P61; omega) (by unfold P88; omega)).2, b5 5 (by omega), a2.2.2.1]
  · rw [(c0 1 e 6 (by unfold P61; omega) (by unfold P88; omega)).2, b5 6 (by omega), a2.2.2.2]
  · rw [(c0 1 e 7 (by unfold P61; omega) (by unfold P88; omega)).2, b3.2]
  · rw [(c0 1020 e 1 (by unfold P61; omega) (by unfold P88; omega)).1, b4]
  · rw [(c1 1021 e 1 (by unfold P61; omega) (by unfold P88; omega) (by decide) (by decide)).1, (y2 1021 e (by unfold P5; omega) 1).1, a3.1]
  · rw [(c1 1022 e 1 (by unfold P61; omega) (by unfold P88; omega) (by decide) (by decide)).1, (y2 1022 e (by unfold P5; omega) 1).1, a3.2.1]
  · rw [(c1 1023 e 1 (by unfold P61; omega) (by unfold P88; omega) (by decide) (by decide)).1, (y2 1023 e (by unfold P5; omega) 1).1, a3.2.2.1]
  · rw [(c1 1024 e 1 (by unfold P61; omega) (by unfold P88; omega) (by decide) (by decide)).1, (y2 1024 e (by unfold P5; omega) 1).1, a3.2.2.2]
  · rw [(c1 1031 e 1 (by unfold P61; omega) (by unfold P88; omega) (by decide) (by decide)).1, y5.1]
  · rw [(c1 1032 e 1 (by unfold P61; omega) (by unfold P88; omega) (by decide) (by decide)).1, y5.2.1]
  · rw [(c1 1033 e 1 (by unfold P61; omega) (by unfold P88; omega) (by decide) (by decide)).1, y5.2.2]
  · intro j; rw [(c1 23 e j (by unfold P61; omega) (by unfold P88; omega) (by decide) (by decide)).1, (y2 23 e (by unfold P5; omega) j).1, a4]
  · intro j; rw [(c1 5 e j (by unfold P61; omega) (by unfold P88; omega) (by decide) (by decide)).1, y3 j, a5]
  · rw [(c1 5 e 8 (by unfold P61; omega) (by unfold P88; omega) (by decide) (by decide)).2, y4.1]
  · rw [(c1 5 e 9 (by unfold P61; omega) (by unfold P88; omega) (by decide) (by decide)).2, y4.2.1]
  · rw [(c1 5 e 10 (by unfold P61; omega) (by unfold P88; omega) (by decide) (by decide)).2, y4.2.2]
  · intro j j0 j1; rw [(c1 32 e j (by unfold P61; omega) (by unfold P88; omega) (by decide) (by decide)).2]; exact y6 j j0 j1
  · intro j j0 j1; rw [(c1 33 e j (by unfold P61; omega) (by unfold P88; omega) (by decide) (by decide)).2, (c1 9 (128 + 2 * e + j) 5 (by unfold P61; omega) (by unfold P88; omega) (by decide) (by decide)).1]; exact y7 j j0 j1
  · intro j j0 j1; exact q8_fr v2 (u3 j j0 j1) (by unfold P88; omega) (v2 20 e (by unfold P88; omega) j).2.2
end IC
