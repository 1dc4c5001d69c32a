/-! ===== what constructors make: exchanges ===== -/
def P61 (e i : Int) (k : Nat) (n : Int) : Prop := ((k = 8 ∨ k = 1008) ∧ 16 * e ≤ n ∧ n < 16 * e + i) ∨ (k = 20 ∧ n = e)
def P88 (e i : Int) (k : Nat) (n : Int) : Prop := ((k = 2 ∨ k = 1002 ∨ k = 25 ∨ k = 1025) ∧ 3 * e ≤ n ∧ n < 3 * e + i) ∨ (k = 21 ∧ n = e)
def P1 (e N : Int) (k : Nat) (n : Int) : Prop := P5 e k n ∨ P61 e N k n ∨ P88 e 3 k n ∨ ((k = 1 ∨ k = 1005 ∨ k = 1020 ∨ k = 1021 ∨ k = 22 ∨ k = 1022 ∨ k = 23 ∨ k = 1023 ∨ k = 24 ∨ k = 1024) ∧ n = e)
def Q8 (e i : Int) (h : JM) : Prop := h.1 8 (16 * e + i) 0 = i ∧ h.1 8 (16 * e + i) 2 = 0 ∧ h.1 8 (16 * e + i) 4 = 213 ∧ h.2.2 8 (16 * e + i) 3 = none ∧ h.2.2 20 e i = some (16 * e + i)
def Q2 (e i : Int) (h : JM) : Prop := h.1 2 (3 * e + i) 1 = 0 ∧ h.1 2 (3 * e + i) 2 = 0 ∧ h.1 2 (3 * e + i) 3 = 0 ∧ h.1 2 (3 * e + i) 4 = 1 ∧ h.1 2 (3 * e + i) 5 = 0 ∧ h.2.2 2 (3 * e + i) 0 = some (3 * e + i) ∧ h.1 1025 (3 * e + i) 1 = 8 ∧ h.2.2 21 e i = some (3 * e + i)
section IB
variable {e N : Int} {h hs : JM}
theorem q8_fr {P : Nat → Int → Prop} {i : Int} {a b : JM} (F : fr P a b) (q : Q8 e i a) (p1 : ¬ P 8 (16 * e + i)) (p2 : b.2.2 20 e i = a.2.2 20 e i) : Q8 e i b := by
  unfold Q8
  rw [(F 8 _ p1 0).1, (F 8 _ p1 2).1, (F 8 _ p1 4).1, (F 8 _ p1 3).2.2, p2]; exact q
theorem q2_fr {P : Nat → Int → Prop} {i : Int} {a b : JM} (F : fr P a b) (q : Q2 e i a) (p1 : ¬ P 2 (3 * e + i)) (p3 : ¬ P 1025 (3 * e + i)) (p2 : b.2.2 21 e i = a.2.2 21 e i) : Q2 e i b := by
  unfold Q2
  rw [(F 2 _ p1 1).1, (F 2 _ p1 2).1, (F 2 _ p1 3).1, (F 2 _ p1 4).1, (F 2 _ p1 5).1, (F 2 _ p1 0).2.2, (F 1025 _ p3 1).1, p2]; exact q
theorem f8_i (u v : Int) (h : JM) : F8_init u v h = some (sI (sI (sI (sI h 8 u 2 0) 8 u 4 213) 8 u 5 213) 8 u 0 v) := by
  unfold F8_init; rw [lt_d, lt_d, lt_d, lt_d]
theorem f2_i (u : Int) {h : JM} (g : h.1 1025 u 0 ≠ 1) : F2_init u h = some (sI (sI (sR (j_nw h 25 u 8) 2 u 0 (some u)) 2 u 4 1) 2 u 5 0) := by
  unfold F2_init; rw [g_t g, lt_d, lt_d, lt_d, lt_d]
theorem i61 (he : e = 0 ∨ e = 1) (hN : 1 ≤ N ∧ N ≤ 16) (g9 : ∀ n, 16 * e ≤ n → n < 16 * e + N → hs.1 1008 n 0 ≠ 1) (r9 : hs.2.2 1 e 1 = some e) (l9 : hs.1 1020 e 1 = N) : ∃ h', F1_init_61 j_f0 e N 0 hs = F1_init_88 j_f0 e 0 h' ∧ fr (P61 e N) hs h' ∧ ∀ j, 0 ≤ j → j < N → Q8 e j h' := by
  have T := gl (L := fun n i h => F1_init_61 n e N i h) (M := N) (E := fun h => F1_init_88 j_f0 e 0 h) (I := fun i h => fr (P61 e i) hs h ∧ ∀ j, 0 ≤ j → j < i → Q8 e j h) (fun n h _ => by
    show F1_init_61b (F1_init_61 n) e N N h = _
    unfold F1_init_61b
    rw [if_pos (by omega)]) (fun n i h i0 i1 I => by
    obtain ⟨F, S⟩ := I
    have q1 : h.1 1008 (16 * e + i) 0 ≠ 1 := by rw [(F 1008 (16 * e + i) (by unfold P61; omega) 0).1]; exact g9 _ (by omega) (by omega)
    have q2 : h.2.2 1 e 1 = some e := by rw [(F 1 e (by unfold P61; omega) 1).2.2, r9]
    have q3 : h.1 1020 e 1 = N := by rw [(F 1020 e (by unfold P61; omega) 1).1, l9]
    obtain ⟨h1, eh1⟩ : ∃ h1, h1 = sI (sI (sI (sI (j_nw h 8 (16 * e + i) 0) 8 (16 * e + i) 2 0) 8 (16 * e + i) 4 213) 8 (16 * e + i) 5 213) 8 (16 * e + i) 0 i := ⟨_, rfl⟩
    have q4 : h1.1 1020 e 1 = N := by rw [eh1]; simp [rI_I, rI_L, rI_R, rL_I, rL_L, rL_R, rR_I, rR_L, rR_R, nN_I, nN_L, nN_R, q3]
    have F1 : fr (P61 e (i + 1)) hs h1 := by
      rw [eh1]
      exact fr_I (fr_I (fr_I (fr_I (fr_N (fr_mono (fun k n q => by unfold P61 at q ⊢; omega) F) (by unfold P61; omega) (by unfold P61; omega) _) (by unfold P61; omega) _ _) (by unfold P61; omega) _ _) (by unfold P61; omega) _ _) (by unfold P61; omega) _ _
    refine ⟨sR h1 20 e i (some (16 * e + i)), ?_, fr_R F1 (by unfold P61; omega) _ _, ?_⟩
    · show F1_init_61b (F1_init_61 n) e N i h = _
      unfold F1_init_61b
      rw [if_neg (by omega), g_t q1, lt_d, f8_i, Option.bind_some, ← eh1, q2, Option.bind_some, q4, g_t (by omega), lt_d, w32_of (by omega) (by omega)]
    · intro j j0 j1
      by_cases z : j = i
      · subst z
        unfold Q8
        rw [rR_s, eh1]
        simp [rI_I, rI_L, rI_R, rL_I, rL_L, rL_R, rR_I, rR_L, rR_R, nN_I, nN_L, nN_R]
      · have t := S j j0 (by omega)
        unfold Q8 at t ⊢
        have ne : 16 * e + j ≠ 16 * e + i := by omega
        rw [rR_o (Or.inr (Or.inr z)), eh1]
        simpa [rI_I, rI_L, rI_R, rL_I, rL_L, rL_R, rR_I, rR_L, rR_R, nN_I, nN_L, nN_R, ne, z] using t) N.toNat j_f0 0 hs (by omega) (by omega) (by unfold j_f0; omega) ⟨fr_rfl hs, fun j a b => by omega⟩
  obtain ⟨h', e1, e2, e3⟩ := T
  exact ⟨h', e1, e2, e3⟩
theorem i88 (he : e = 0 ∨ e = 1) (g9 : ∀ n, 3 * e ≤ n → n < 3 * e + 3 → hs.1 1002 n 0 ≠ 1 ∧ hs.1 1025 n 0 ≠ 1) (r9 : hs.2.2 1 e 2 = some e) (l9 : hs.1 1021 e 1 = 3) : ∃ h', F1_init_88 j_f0 e 0 hs = some h' ∧ fr (P88 e 3) hs h' ∧ ∀ j, 0 ≤ j → j < 3 → Q2 e j h' := by
  have T := gl (L := fun n i h => F1_init_88 n e i h) (M := 3) (E := fun h => some h) (I := fun i h => fr (P88 e i) hs h ∧ ∀ j, 0 ≤ j → j < i → Q2 e j h) (fun n h _ => by
    show F1_init_88b (F1_init_88 n) e 3 h = _
    unfold F1_init_88b
    rw [if_pos (by omega)]) (fun n i h i0 i1 I => by
    obtain ⟨F, S⟩ := I
    have q1 : h.1 1002 (3 * e + i) 0 ≠ 1 := by rw [(F 1002 (3 * e + i) (by unfold P88; omega) 0).1]; exact (g9 _ (by omega) (by omega)).1
    have q1' : (j_nw h 2 (3 * e + i) 0).1 1025 (3 * e + i) 0 ≠ 1 := by
      rw [nwI (Or.inl (by decide)) (Or.inl (by decide)), (F 1025 (3 * e + i) (by unfold P88; omega) 0).1]; exact (g9 _ (by omega) (by omega)).2
    have q2 : h.2.2 1 e 2 = some e := by rw [(F 1 e (by unfold P88; omega) 2).2.2, r9]
    have q3 : h.1 1021 e 1 = 3 := by rw [(F 1021 e (by unfold P88; omega) 1).1, l9]
    obtain ⟨h1, eh1⟩ : ∃ h1, h1 = sI (sI (sR (j_nw (j_nw h 2 (3 * e + i) 0) 25 (3 * e + i) 8) 2 (3 * e + i) 0 (some (3 * e + i))) 2 (3 * e + i) 4 1) 2 (3 * e + i) 5 0 := ⟨_, rfl⟩
    have q4 : h1.1 1021 e 1 = 3 := by rw [eh1]; simp [rI_I, rI_L, rI_R, rL_I, rL_L, rL_R, rR_I, rR_L, rR_R, nN_I, nN_L, nN_R, q3]
    have F1 : fr (P88 e (i + 1)) hs h1 := by
      rw [eh1]
      exact fr_I (fr_I (fr_R (fr_N (fr_N (fr_mono (fun k n q => by unfold P88 at q ⊢; omega) F) (by unfold P88; omega) (by unfold P88; omega) _) (by unfold P88; omega) (by unfold P88; omega) _) (by unfold P88; omega) _ _) (by unfold P88; omega) _ _) (by unfold P88; omega) _ _
    refine ⟨sR h1 21 e i (some (3 * e + i)), ?_, fr_R F1 (by unfold P88; omega) _ _, ?_⟩
    · show F1_init_88b (F1_init_88 n) e i h = _
      unfold F1_init_88b
      rw [if_neg (by omega), g_t q1, lt_d, f2_i _ q1', Option.bind_some, ← eh1, q2, Option.bind_some, q4, g_t (by omega), lt_d, w32_of (by omega) (by omega)]
    · intro j j0 j1
      by_cases z : j = i
      · subst z
        unfold Q2
        rw [rR_s, eh1]
        simp [rI_I, rI_L, rI_R, rL_I, rL_L, rL_R, rR_I, rR_L, rR_R, nN_I, nN_L, nN_R]
      · have t := S j j0 (by omega)
        unfold Q2 at t ⊢
        have ne : 3 * e + j ≠ 3 * e + i := by omega
        rw [rR_o (h := h1) (k' := 21) (Or.inr (Or.inr z)), eh1]
        simpa [rI_I, rI_L, rI_R, rL_I, rL_L, rL_R, rR_I, rR_L, rR_R, nN_I, nN_L, nN_R, ne, z] using t) 3 j_f0 0 hs (by omega) (by omega) (by unfold j_f0; omega) ⟨fr_rfl hs, fun j a b => by omega⟩
  obtain ⟨h', e1, e2, e3⟩ := T
  exact ⟨h', e1, e2, e3⟩
end IB
