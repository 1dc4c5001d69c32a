/-! ===== what constructors make: links ===== -/
theorem nN_I (h : JM) (k : Nat) (n l : Int) (k' : Nat) (n' j' : Int) : (j_nw h k n l).1 k' n' j' = if k' = k ∧ n' = n then 0 else if k' = k + 1000 ∧ n' = n then (if j' = 0 then 1 else if j' = 1 then l else h.1 k' n' j') else h.1 k' n' j' := rfl
theorem nN_L (h : JM) (k : Nat) (n l : Int) (k' : Nat) (n' j' : Int) : (j_nw h k n l).2.1 k' n' j' = if k' = k ∧ n' = n then 0 else h.2.1 k' n' j' := rfl
theorem nN_R (h : JM) (k : Nat) (n l : Int) (k' : Nat) (n' j' : Int) : (j_nw h k n l).2.2 k' n' j' = if k' = k ∧ n' = n then none else h.2.2 k' n' j' := rfl
def P42 (e i : Int) (k : Nat) (n : Int) : Prop := ((k = 9 ∨ k = 1009) ∧ 64 * e ≤ n ∧ n < 64 * e + i) ∨ (k = 32 ∧ n = e)
def P69 (e i : Int) (k : Nat) (n : Int) : Prop := ((k = 9 ∨ k = 1009) ∧ 128 + 2 * e ≤ n ∧ n < 128 + 2 * e + i) ∨ (k = 33 ∧ n = e)
def P5 (e : Int) (k : Nat) (n : Int) : Prop := ((k = 5 ∨ k = 31 ∨ k = 1031 ∨ k = 32 ∨ k = 1032 ∨ k = 33 ∨ k = 1033) ∧ n = e) ∨ ((k = 9 ∨ k = 1009) ∧ ((64 * e ≤ n ∧ n < 64 * e + 64) ∨ (128 + 2 * e ≤ n ∧ n < 128 + 2 * e + 2)))
section IA
variable {e : Int} {h hs : JM}
theorem f9_i (u : Int) (h : JM) : F9_init u h = some (sI (sL h 9 u 4 (-1)) 9 u 5 2) := by
  unfold F9_init; rw [lt_d, lt_d]
theorem i42 (he : e = 0 ∨ e = 1) (g9 : ∀ n, 64 * e ≤ n → n < 64 * e + 64 → hs.1 1009 n 0 ≠ 1) (r9 : hs.2.2 5 e 9 = some e) (l9 : hs.1 1032 e 1 = 64) : ∃ h', F5_init_42 j_f0 e 0 hs = F5_init_69 j_f0 e 0 h' ∧ fr (P42 e 64) hs h' ∧ ∀ j, 0 ≤ j → j < 64 → h'.2.2 32 e j = some (64 * e + j) := by
  have T := gl (L := fun n i h => F5_init_42 n e i h) (M := 64) (E := fun h => F5_init_69 j_f0 e 0 h) (I := fun i h => fr (P42 e i) hs h ∧ ∀ j, 0 ≤ j → j < i → h.2.2 32 e j = some (64 * e + j)) (fun n h _ => by
    show F5_init_42b (F5_init_42 n) e 64 h = _
    unfold F5_init_42b
    rw [if_pos (by omega)]) (fun n i h i0 i1 I => by
    obtain ⟨F, S⟩ := I
    have q1 : h.1 1009 (64 * e + i) 0 ≠ 1 := by rw [(F 1009 (64 * e + i) (by unfold P42; omega) 0).1]; exact g9 _ (by omega) (by omega)
    have q2 : h.2.2 5 e 9 = some e := by rw [(F 5 e (by unfold P42; omega) 9).2.2, r9]
    have q3 : h.1 1032 e 1 = 64 := by rw [(F 1032 e (by unfold P42; omega) 1).1, l9]
    have q4 : (sI (sL (j_nw h 9 (64 * e + i) 0) 9 (64 * e + i) 4 (-1)) 9 (64 * e + i) 5 2).1 1032 e 1 = 64 := by simp [rI_I, rI_L, rI_R, rL_I, rL_L, rL_R, rR_I, rR_L, rR_R, nN_I, nN_L, nN_R, q3]
    refine ⟨sR (sI (sL (j_nw h 9 (64 * e + i) 0) 9 (64 * e + i) 4 (-1)) 9 (64 * e + i) 5 2) 32 e i (some (64 * e + i)), ?_, ?_, ?_⟩
    · show F5_init_42b (F5_init_42 n) e i h = _
      unfold F5_init_42b
      rw [if_neg (by omega), g_t q1, lt_d, f9_i, Option.bind_some, q2, Option.bind_some, q4, g_t (by omega), lt_d, w32_of (by omega) (by omega)]
    · exact fr_R (fr_I (fr_L (fr_N (fr_mono (fun k n q => by unfold P42 at q ⊢; omega) F) (by unfold P42; omega) (by unfold P42; omega) _) (by unfold P42; omega) _ _) (by unfold P42; omega) _ _) (by unfold P42; omega) _ _
    · intro j j0 j1
      by_cases z : j = i
      · rw [z, rR_s]
      · rw [rR_o (Or.inr (Or.inr z))]
        show (j_nw h 9 (64 * e + i) 0).2.2 32 e j = _
        rw [nwR (Or.inl (by decide))]
        exact S j j0 (by omega)) 64 j_f0 0 hs (by omega) (by omega) (by unfold j_f0; omega) ⟨fr_rfl hs, fun j a b => by omega⟩
  obtain ⟨h', e1, e2, e3⟩ := T
  exact ⟨h', e1, e2, e3⟩
theorem i69 (he : e = 0 ∨ e = 1) (g9 : ∀ n, 128 + 2 * e ≤ n → n < 128 + 2 * e + 2 → hs.1 1009 n 0 ≠ 1) (r9 : hs.2.2 5 e 10 = some e) (l9 : hs.1 1033 e 1 = 2) : ∃ h', F5_init_69 j_f0 e 0 hs = some h' ∧ fr (P69 e 2) hs h' ∧ ∀ j, 0 ≤ j → j < 2 → h'.2.2 33 e j = some (128 + 2 * e + j) ∧ h'.1 9 (128 + 2 * e + j) 5 = 2 := by
  have T := gl (L := fun n i h => F5_init_69 n e i h) (M := 2) (E := fun h => some h) (I := fun i h => fr (P69 e i) hs h ∧ ∀ j, 0 ≤ j → j < i → h.2.2 33 e j = some (128 + 2 * e + j) ∧ h.1 9 (128 + 2 * e + j) 5 = 2) (fun n h I => by
    show F5_init_69b (F5_init_69 n) e 2 h = _
    have q2 : h.2.2 5 e 10 = some e := by rw [(I.1 5 e (by unfold P69; omega) 10).2.2, r9]
    have q3 : h.1 1033 e 1 = 2 := by rw [(I.1 1033 e (by unfold P69; omega) 1).1, l9]
    unfold F5_init_69b
    rw [q2, Option.bind_some, q3, g_t (by omega), if_pos (by omega)]) (fun n i h i0 i1 I => by
    obtain ⟨F, S⟩ := I
    have q1 : h.1 1009 (128 + 2 * e + i) 0 ≠ 1 := by rw [(F 1009 (128 + 2 * e + i) (by unfold P69; omega) 0).1]; exact g9 _ (by omega) (by omega)
    have q2 : h.2.2 5 e 10 = some e := by rw [(F 5 e (by unfold P69; omega) 10).2.2, r9]
    have q3 : h.1 1033 e 1 = 2 := by rw [(F 1033 e (by unfold P69; omega) 1).1, l9]
    have q4 : (sI (sL (j_nw h 9 (128 + 2 * e + i) 0) 9 (128 + 2 * e + i) 4 (-1)) 9 (128 + 2 * e + i) 5 2).1 1033 e 1 = 2 := by simp [rI_I, rI_L, rI_R, rL_I, rL_L, rL_R, rR_I, rR_L, rR_R, nN_I, nN_L, nN_R, q3]
    refine ⟨sR (sI (sL (j_nw h 9 (128 + 2 * e + i) 0) 9 (128 + 2 * e + i) 4 (-1)) 9 (128 + 2 * e + i) 5 2) 33 e i (some (128 + 2 * e + i)), ?_, ?_, ?_⟩
    · show F5_init_69b (F5_init_69 n) e i h = _
      unfold F5_init_69b
      rw [q2, Option.bind_some, q3, g_t (by omega), if_neg (by omega), g_t q1, lt_d, f9_i, Option.bind_some, Option.bind_some, q4, g_t (by omega), lt_d, w32_of (by omega) (by omega)]
    · exact fr_R (fr_I (fr_L (fr_N (fr_mono (fun k n q => by unfold P69 at q ⊢; omega) F) (by unfold P69; omega) (by unfold P69; omega) _) (by unfold P69; omega) _ _) (by unfold P69; omega) _ _) (by unfold P69; omega) _ _
    · intro j j0 j1
      by_cases z : j = i
      · rw [z, rR_s]
        refine ⟨rfl, ?_⟩
        show (sI (sL (j_nw h 9 (128 + 2 * e + i) 0) 9 (128 + 2 * e + i) 4 (-1)) 9 (128 + 2 * e + i) 5 2).1 9 (128 + 2 * e + i) 5 = 2
        rw [rI_s]
      · have t := S j j0 (by omega)
        refine ⟨?_, ?_⟩
        · rw [rR_o (Or.inr (Or.inr z))]
          show (j_nw h 9 (128 + 2 * e + i) 0).2.2 33 e j = _
          rw [nwR (Or.inl (by decide))]
          exact t.1
        · show (sI (sL (j_nw h 9 (128 + 2 * e + i) 0) 9 (128 + 2 * e + i) 4 (-1)) 9 (128 + 2 * e + i) 5 2).1 9 (128 + 2 * e + j) 5 = 2
          rw [rI_o (Or.inr (Or.inl (by omega)))]
          show (j_nw h 9 (128 + 2 * e + i) 0).1 9 (128 + 2 * e + j) 5 = 2
          rw [nwI (Or.inr (by omega)) (Or.inl (by decide))]
          exact t.2) 2 j_f0 0 hs (by omega) (by omega) (by unfold j_f0; omega) ⟨fr_rfl hs, fun j a b => by omega⟩
  obtain ⟨h', e1, e2, e3⟩ := T
  exact ⟨h', e1, e2, e3⟩
def K5 (e : Int) (h h' : JM) : Prop := (∀ j, h'.1 5 e j = if j = 5 ∨ j = 6 then 1 else h.1 5 e j) ∧ (h'.2.2 5 e 8 = some e ∧ h'.2.2 5 e 9 = some e ∧ h'.2.2 5 e 10 = some e) ∧ (h'.1 1031 e 1 = 200 ∧ h'.1 1032 e 1 = 64 ∧ h'.1 1033 e 1 = 2) ∧ (∀ j, 0 ≤ j → j < 64 → h'.2.2 32 e j = some (64 * e + j)) ∧ (∀ j, 0 ≤ j → j < 2 → h'.2.2 33 e j = some (128 + 2 * e + j) ∧ h'.1 9 (128 + 2 * e + j) 5 = 2)
theorem i5 (he : e = 0 ∨ e = 1) (g1 : h.1 1031 e 0 ≠ 1) (g2 : h.1 1032 e 0 ≠ 1) (g3 : h.1 1033 e 0 ≠ 1) (g9 : ∀ n, (64 * e ≤ n ∧ n < 64 * e + 64) ∨ (128 + 2 * e ≤ n ∧ n < 128 + 2 * e + 2) → h.1 1009 n 0 ≠ 1) : ∃ h', F5_init e h = some h' ∧ fr (P5 e) h h' ∧ K5 e h h' := by
  obtain ⟨h1, eh1⟩ : ∃ h1, h1 = sR (j_nw (sR (j_nw (sR (j_nw (sI (sI h 5 e 5 1) 5 e 6 1) 31 e 200) 5 e 8 (some e)) 32 e 64) 5 e 9 (some e)) 33 e 2) 5 e 10 (some e) := ⟨_, rfl⟩
  have F1 : fr (P5 e) h h1 := by
    rw [eh1]
    exact fr_R (fr_N (fr_R (fr_N (fr_R (fr_N (fr_I (fr_I (fr_rfl h) (by unfold P5; omega) _ _) (by unfold P5; omega) _ _) (by unfold P5; omega) (by unfold P5; omega) _) (by unfold P5; omega) _ _) (by unfold P5; omega) (by unfold P5; omega) _) (by unfold P5; omega) _ _) (by unfold P5; omega) (by unfold P5; omega) _) (by unfold P5; omega) _ _
  have a9 : ∀ n, h1.1 1009 n 0 = h.1 1009 n 0 := fun n => by rw [eh1]; simp [rI_I, rI_L, rI_R, rL_I, rL_L, rL_R, rR_I, rR_L, rR_R, nN_I, nN_L, nN_R]
  have a1 : ∀ j, h1.1 5 e j = if j = 5 ∨ j = 6 then 1 else h.1 5 e j := fun j => by rw [eh1]; simp [rI_I, rI_L, rI_R, rL_I, rL_L, rL_R, rR_I, rR_L, rR_R, nN_I, nN_L, nN_R]; grind
  have a2 : h1.2.2 5 e 8 = some e := by rw [eh1]; simp [rI_I, rI_L, rI_R, rL_I, rL_L, rL_R, rR_I, rR_L, rR_R, nN_I, nN_L, nN_R]
  have a3 : h1.2.2 5 e 9 = some e := by rw [eh1]; simp [rI_I, rI_L, rI_R, rL_I, rL_L, rL_R, rR_I, rR_L, rR_R, nN_I, nN_L, nN_R]
  have a4 : h1.2.2 5 e 10 = some e := by rw [eh1]; simp [rI_I, rI_L, rI_R, rL_I, rL_L, rL_R, rR_I, rR_L, rR_R, nN_I, nN_L, nN_R]
  have a5 : h1.1 1031 e 1 = 200 := by rw [eh1]; simp [rI_I, rI_L, rI_R, rL_I, rL_L, rL_R, rR_I, rR_L, rR_R, nN_I, nN_L, nN_R]
  have a6 : h1.1 1032 e 1 = 64 := by rw [eh1]; simp [rI_I, rI_L, rI_R, rL_I, rL_L, rL_R, rR_I, rR_L, rR_R, nN_I, nN_L, nN_R]
  have a7 : h1.1 1033 e 1 = 2 := by rw [eh1]; simp [rI_I, rI_L, rI_R, rL_I, rL_L, rL_R, rR_I, rR_L, rR_R, nN_I, nN_L, nN_R]
  obtain ⟨h2, y1, y2, y3⟩ := i42 (hs := h1) he (fun n a b => by rw [a9]; exact g9 n (Or.inl ⟨a, b⟩)) a3 a6
  obtain ⟨h3, z1, z2, z3⟩ := i69 (hs := h2) he (fun n a b => by rw [(y2 1009 n (by unfold P42; omega) 0).1, a9]; exact g9 n (Or.inr ⟨a, b⟩)) (by rw [(y2 5 e (by unfold P42; omega) 10).2.2, a4]) (by rw [(y2 1033 e (by unfold P42; omega) 1).1, a7])
  have b1 : ∀ k, k = 5 ∨ k = 1031 ∨ k = 1032 ∨ k = 1033 → ∀ j, h3.1 k e j = h1.1 k e j ∧ h3.2.2 k e j = h1.2.2 k e j := fun k hk j => by
    have t1 := z2 k e (by unfold P69; omega) j
    have t2 := y2 k e (by unfold P42; omega) j
    exact ⟨t1.1.trans t2.1, t1.2.2.trans t2.2.2⟩
  refine ⟨h3, ?_, fr_tr F1 (fr_tr (fr_mono (fun k n q => by unfold P42 at q; unfold P5; omega) y2) (fr_mono (fun k n q => by unfold P69 at q; unfold P5; omega) z2)), ?_, ⟨?_, ?_, ?_⟩, ⟨?_, ?_, ?_⟩, ?_, z3⟩
  · unfold F5_init
    rw [lt_d, lt_d, g_t (by simpa [rI_I, rI_L, rI_R, rL_I, rL_L, rL_R, rR_I, rR_L, rR_R, nN_I, nN_L, nN_R] using g1), lt_d, lt_d, g_t (by simpa [rI_I, rI_L, rI_R, rL_I, rL_L, rL_R, rR_I, rR_L, rR_R, nN_I, nN_L, nN_R] using g2), lt_d, lt_d, g_t (by simpa [rI_I, rI_L, rI_R, rL_I, rL_L, rL_R, rR_I, rR_L, rR_R, nN_I, nN_L, nN_R] using g3), lt_d, lt_d, ← eh1, y1, z1]
  · intro j; rw [(b1 5 (by omega) j).1, a1]
  · rw [(b1 5 (by omega) 8).2, a2]
  · rw [(b1 5 (by omega) 9).2, a3]
  · rw [(b1 5 (by omega) 10).2, a4]
  · rw [(b1 1031 (by omega) 1).1, a5]
  · rw [(b1 1032 (by omega) 1).1, a6]
  · rw [(b1 1033 (by omega) 1).1, a7]
  · intro j j0 j1; rw [(z2 32 e (by unfold P69; omega) j).2.2]; exact y3 j j0 j1
end IA
