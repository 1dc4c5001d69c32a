/-! ===== what constructors make: lines, calls, far ends ===== -/
def P231 (i : Int) (k : Nat) (n : Int) : Prop := ((k = 4 ∨ k = 1004 ∨ k = 28 ∨ k = 1028 ∨ k = 29 ∨ k = 1029 ∨ k = 30 ∨ k = 1030) ∧ 0 ≤ n ∧ n < i) ∨ (k = 39 ∧ n = 0)
def P259 (i : Int) (k : Nat) (n : Int) : Prop := ((k = 0 ∨ k = 1000) ∧ 0 ≤ n ∧ n < i) ∨ (k = 40 ∧ n = 0)
def QL (i : Int) (h : JM) : Prop := (∀ j, h.1 4 i j = if j = 17 then -1 else if j = 0 then i else 0) ∧ (∀ j, h.2.2 4 i j = if j = 1 ∨ j = 2 ∨ j = 3 then some i else none) ∧ (∀ j, h.1 28 i j = 0) ∧ (∀ j, h.2.1 29 i j = 0) ∧ (∀ j, h.1 30 i j = 0) ∧ h.1 1028 i 1 = 3 ∧ h.1 1029 i 1 = 3 ∧ h.1 1030 i 1 = 20 ∧ h.2.2 39 0 i = some i
section ID
variable {e N : Int} {h hs : JM}
theorem ql_fr {P : Nat → Int → Prop} {i : Int} {a b : JM} (F : fr P a b) (q : QL i a) (p : ∀ k, k = 4 ∨ k = 28 ∨ k = 29 ∨ k = 30 ∨ k = 1028 ∨ k = 1029 ∨ k = 1030 → ¬ P k i) (p2 : b.2.2 39 0 i = a.2.2 39 0 i) : QL i b := by
  obtain ⟨q1, q2, q3, q4, q5, q6, q7, q8, q9⟩ := q
  exact ⟨fun j => by rw [(F 4 i (p 4 (by omega)) j).1]; exact q1 j, fun j => by rw [(F 4 i (p 4 (by omega)) j).2.2]; exact q2 j, fun j => by rw [(F 28 i (p 28 (by omega)) j).1]; exact q3 j, fun j => by rw [(F 29 i (p 29 (by omega)) j).2.1]; exact q4 j, fun j => by rw [(F 30 i (p 30 (by omega)) j).1]; exact q5 j, by rw [(F 1028 i (p 1028 (by omega)) 1).1]; exact q6, by rw [(F 1029 i (p 1029 (by omega)) 1).1]; exact q7, by rw [(F 1030 i (p 1030 (by omega)) 1).1]; exact q8, by rw [p2]; exact q9⟩
theorem f4_i (u : Int) {h : JM} (g : h.1 1028 u 0 ≠ 1 ∧ h.1 1029 u 0 ≠ 1 ∧ h.1 1030 u 0 ≠ 1) : F4_init u u h = some (sI (sI (sR (j_nw (sR (j_nw (sR (j_nw h 28 u 3) 4 u 1 (some u)) 29 u 3) 4 u 2 (some u)) 30 u 20) 4 u 3 (some u)) 4 u 17 (-1)) 4 u 0 u) := by
  unfold F4_init
  rw [g_t g.1, lt_d, lt_d, g_t (by simpa [rI_I, rI_L, rI_R, rL_I, rL_L, rL_R, rR_I, rR_L, rR_R, nN_I, nN_L, nN_R] using g.2.1), lt_d, lt_d, g_t (by simpa [rI_I, rI_L, rI_R, rL_I, rL_L, rL_R, rR_I, rR_L, rR_R, nN_I, nN_L, nN_R] using g.2.2), lt_d, lt_d, lt_d, lt_d]
theorem i231 (g9 : ∀ k n, k = 1004 ∨ k = 1028 ∨ k = 1029 ∨ k = 1030 → 0 ≤ n → n < 16 → hs.1 k n 0 ≠ 1) (r9 : hs.2.2 11 0 3 = some 0) (l9 : hs.1 1039 0 1 = 16) : ∃ h', F11_init_231 j_f0 0 hs = F11_init_259 j_f0 0 h' ∧ fr (P231 16) hs h' ∧ ∀ j, 0 ≤ j → j < 16 → QL j h' := by
  have T := gl (L := fun n i h => F11_init_231 n i h) (M := 16) (E := fun h => F11_init_259 j_f0 0 h) (I := fun i h => fr (P231 i) hs h ∧ ∀ j, 0 ≤ j → j < i → QL j h) (fun n h _ => by
    show F11_init_231b (F11_init_231 n) 16 h = _
    unfold F11_init_231b
    rw [if_pos (by omega)]) (fun n u h i0 i1 I => by
    obtain ⟨F, S⟩ := I
    have g : ∀ k, k = 1004 ∨ k = 1028 ∨ k = 1029 ∨ k = 1030 → h.1 k u 0 ≠ 1 := fun k hk => by rw [(F k u (by unfold P231; omega) 0).1]; exact g9 k u hk i0 i1
    have g' : (j_nw h 4 u 0).1 1028 u 0 ≠ 1 ∧ (j_nw h 4 u 0).1 1029 u 0 ≠ 1 ∧ (j_nw h 4 u 0).1 1030 u 0 ≠ 1 := by
      rw [nwI (Or.inl (by decide)) (Or.inl (by decide)), nwI (Or.inl (by decide)) (Or.inl (by decide)), nwI (Or.inl (by decide)) (Or.inl (by decide))]
      exact ⟨g 1028 (by omega), g 1029 (by omega), g 1030 (by omega)⟩
    have q2 : h.2.2 11 0 3 = some 0 := by rw [(F 11 0 (by unfold P231; omega) 3).2.2, r9]
    have q3 : h.1 1039 0 1 = 16 := by rw [(F 1039 0 (by unfold P231; omega) 1).1, l9]
    obtain ⟨h1, eh1⟩ : ∃ h1, h1 = sI (sI (sR (j_nw (sR (j_nw (sR (j_nw (j_nw h 4 u 0) 28 u 3) 4 u 1 (some u)) 29 u 3) 4 u 2 (some u)) 30 u 20) 4 u 3 (some u)) 4 u 17 (-1)) 4 u 0 u := ⟨_, rfl⟩
    have q4 : h1.1 1039 0 1 = 16 := by rw [eh1]; simp [rI_I, rI_L, rI_R, rL_I, rL_L, rL_R, rR_I, rR_L, rR_R, nN_I, nN_L, nN_R, q3]
    have F0 : fr (P231 (u + 1)) h h1 := by
      rw [eh1]
      exact fr_I (fr_I (fr_R (fr_N (fr_R (fr_N (fr_R (fr_N (fr_N (fr_rfl h) (by unfold P231; omega) (by unfold P231; omega) _) (by unfold P231; omega) (by unfold P231; omega) _) (by unfold P231; omega) _ _) (by unfold P231; omega) (by unfold P231; omega) _) (by unfold P231; omega) _ _) (by unfold P231; omega) (by unfold P231; omega) _) (by unfold P231; omega) _ _) (by unfold P231; omega) _ _) (by unfold P231; omega) _ _
    have F1 : fr (P231 (u + 1)) hs h1 := fr_tr (fr_mono (fun k n q => by unfold P231 at q ⊢; omega) F) F0
    have F9 : fr (fun k n => P231 (u + 1) k n ∧ (n = u ∨ k = 39)) h (sR h1 39 0 u (some u)) := by
      rw [eh1]
      exact fr_R (fr_I (fr_I (fr_R (fr_N (fr_R (fr_N (fr_R (fr_N (fr_N (fr_rfl h) (by unfold P231; omega) (by unfold P231; omega) _) (by unfold P231; omega) (by unfold P231; omega) _) (by unfold P231; omega) _ _) (by unfold P231; omega) (by unfold P231; omega) _) (by unfold P231; omega) _ _) (by unfold P231; omega) (by unfold P231; omega) _) (by unfold P231; omega) _ _) (by unfold P231; omega) _ _) (by unfold P231; omega) _ _) (by unfold P231; omega) _ _
    refine ⟨sR h1 39 0 u (some u), ?_, fr_R F1 (by unfold P231; omega) _ _, ?_⟩
    · show F11_init_231b (F11_init_231 n) u h = _
      unfold F11_init_231b
      rw [if_neg (by omega), g_t (g 1004 (by omega)), lt_d, f4_i u g', Option.bind_some, ← eh1, q2, Option.bind_some, q4, g_t (by omega), lt_d, w32_of (by omega) (by omega)]
    · intro j j0 j1
      by_cases z : j = u
      · subst z
        have t4 : ∀ i, h1.1 4 j i = if i = 17 then -1 else if i = 0 then j else 0 := fun i => by rw [eh1]; simp [rI_I, rI_L, rI_R, rL_I, rL_L, rL_R, rR_I, rR_L, rR_R, nN_I, nN_L, nN_R]; grind
        have t5 : ∀ i, h1.2.2 4 j i = if i = 1 ∨ i = 2 ∨ i = 3 then some j else none := fun i => by rw [eh1]; simp [rI_I, rI_L, rI_R, rL_I, rL_L, rL_R, rR_I, rR_L, rR_R, nN_I, nN_L, nN_R]; grind
        refine ⟨t4, ?_, ?_, ?_, ?_, ?_, ?_, ?_, ?_⟩
        · intro i; rw [rR_o (Or.inl (by decide))]; exact t5 i
        · intro i; show h1.1 28 j i = 0; rw [eh1]; simp [rI_I, rI_L, rI_R, rL_I, rL_L, rL_R, rR_I, rR_L, rR_R, nN_I, nN_L, nN_R]
        · intro i; show h1.2.1 29 j i = 0; rw [eh1]; simp [rI_I, rI_L, rI_R, rL_I, rL_L, rL_R, rR_I, rR_L, rR_R, nN_I, nN_L, nN_R]
        · intro i; show h1.1 30 j i = 0; rw [eh1]; simp [rI_I, rI_L, rI_R, rL_I, rL_L, rL_R, rR_I, rR_L, rR_R, nN_I, nN_L, nN_R]
        · show h1.1 1028 j 1 = 3; rw [eh1]; simp [rI_I, rI_L, rI_R, rL_I, rL_L, rL_R, rR_I, rR_L, rR_R, nN_I, nN_L, nN_R]
        · show h1.1 1029 j 1 = 3; rw [eh1]; simp [rI_I, rI_L, rI_R, rL_I, rL_L, rL_R, rR_I, rR_L, rR_R, nN_I, nN_L, nN_R]
        · show h1.1 1030 j 1 = 20; rw [eh1]; simp [rI_I, rI_L, rI_R, rL_I, rL_L, rL_R, rR_I, rR_L, rR_R, nN_I, nN_L, nN_R]
        · rw [rR_s]
      · refine ql_fr F9 (S j j0 (by omega)) (fun k hk q => by rcases q.2 with y | y; exact z y; omega) ?_
        rw [rR_o (Or.inr (Or.inr z)), eh1]
        simp [rI_I, rI_L, rI_R, rL_I, rL_L, rL_R, rR_I, rR_L, rR_R, nN_I, nN_L, nN_R]) 16 j_f0 0 hs (by omega) (by omega) (by unfold j_f0; omega) ⟨fr_rfl hs, fun j a b => by omega⟩
  obtain ⟨h', e1, e2, e3⟩ := T
  exact ⟨h', e1, e2, e3⟩
theorem i259 (g9 : ∀ n, 0 ≤ n → n < 72 → hs.1 1000 n 0 ≠ 1) (r9 : hs.2.2 11 0 4 = some 0) (l9 : hs.1 1040 0 1 = 72) : ∃ h', F11_init_259 j_f0 0 hs = some h' ∧ fr (P259 72) hs h' ∧ ∀ j, 0 ≤ j → j < 72 → h'.1 0 j 9 = -1 ∧ h'.2.2 40 0 j = some j := by
  have T := gl (L := fun n i h => F11_init_259 n i h) (M := 72) (E := fun h => some h) (I := fun i h => fr (P259 i) hs h ∧ ∀ j, 0 ≤ j → j < i → h.1 0 j 9 = -1 ∧ h.2.2 40 0 j = some j) (fun n h _ => by
    show F11_init_259b (F11_init_259 n) 72 h = _
    unfold F11_init_259b
    rw [if_pos (by omega)]) (fun n u h i0 i1 I => by
    obtain ⟨F, S⟩ := I
    have q1 : h.1 1000 u 0 ≠ 1 := by rw [(F 1000 u (by unfold P259; omega) 0).1]; exact g9 u i0 i1
    have q2 : h.2.2 11 0 4 = some 0 := by rw [(F 11 0 (by unfold P259; omega) 4).2.2, r9]
    have q3 : h.1 1040 0 1 = 72 := by rw [(F 1040 0 (by unfold P259; omega) 1).1, l9]
    obtain ⟨h1, eh1⟩ : ∃ h1, h1 = sI (j_nw h 0 u 0) 0 u 9 (-1) := ⟨_, rfl⟩
    have q4 : h1.1 1040 0 1 = 72 := by rw [eh1]; simp [rI_I, rI_L, rI_R, rL_I, rL_L, rL_R, rR_I, rR_L, rR_R, nN_I, nN_L, nN_R, q3]
    refine ⟨sR h1 40 0 u (some u), ?_, ?_, ?_⟩
    · show F11_init_259b (F11_init_259 n) u h = _
      unfold F11_init_259b F0_init
      rw [if_neg (by omega), g_t q1, lt_d, lt_d, Option.bind_some, ← eh1, q2, Option.bind_some, q4, g_t (by omega), lt_d, w32_of (by omega) (by omega)]
    · rw [eh1]
      exact fr_R (fr_I (fr_N (fr_mono (fun k n q => by unfold P259 at q ⊢; omega) F) (by unfold P259; omega) (by unfold P259; omega) _) (by unfold P259; omega) _ _) (by unfold P259; omega) _ _
    · intro j j0 j1
      by_cases z : j = u
      · subst z
        rw [rR_s]
        refine ⟨?_, rfl⟩
        show h1.1 0 j 9 = -1
        rw [eh1, rI_s]
      · have t := S j j0 (by omega)
        rw [rR_o (Or.inr (Or.inr z))]
        refine ⟨?_, ?_⟩
        · show h1.1 0 j 9 = -1
          rw [eh1, rI_o (Or.inr (Or.inl z)), nwI (Or.inr z) (Or.inl (by decide))]
          exact t.1
        · rw [eh1]
          show (j_nw h 0 u 0).2.2 40 0 j = some j
          rw [nwR (Or.inl (by decide))]
          exact t.2) 72 j_f0 0 hs (by omega) (by omega) (by unfold j_f0; omega) ⟨fr_rfl hs, fun j a b => by omega⟩
  obtain ⟨h', e1, e2, e3⟩ := T
  exact ⟨h', e1, e2, e3⟩
/-- far ends -/
theorem i165 (hN : 1 ≤ N ∧ N ≤ 16) (n0 : hs.1 11 0 0 = N) (r2 : hs.2.2 11 0 2 = some 0) (l38 : hs.1 1038 0 1 = 2) (r38 : hs.2.2 38 0 0 = some 0 ∧ hs.2.2 38 0 1 = some 1) (r1 : hs.2.2 1 0 1 = some 0 ∧ hs.2.2 1 1 1 = some 1) (l20 : hs.1 1020 0 1 = N ∧ hs.1 1020 1 1 = N) (r20 : ∀ j, 0 ≤ j → j < N → hs.2.2 20 0 j = some (16 * 0 + j) ∧ hs.2.2 20 1 j = some (16 * 1 + j)) :
    ∃ h', F11_init_165 j_f0 0 hs = F11_init_231 j_f0 0 h' ∧ h'.1 = hs.1 ∧ h'.2.1 = hs.2.1 ∧ (∀ k n j, k ≠ 8 ∨ j ≠ 1 ∨ ¬ ((0 ≤ n ∧ n < N) ∨ (16 ≤ n ∧ n < 16 + N)) → h'.2.2 k n j = hs.2.2 k n j) ∧ ∀ j, 0 ≤ j → j < N → h'.2.2 8 j 1 = some (16 + j) ∧ h'.2.2 8 (16 + j) 1 = some j := by
  have T := gl (L := fun n i h => F11_init_165 n i h) (M := N) (E := fun h => F11_init_231 j_f0 0 h) (I := fun i h => h.1 = hs.1 ∧ h.2.1 = hs.2.1 ∧ (∀ k n j, k ≠ 8 ∨ j ≠ 1 ∨ ¬ ((0 ≤ n ∧ n < N) ∨ (16 ≤ n ∧ n < 16 + N)) → h.2.2 k n j = hs.2.2 k n j) ∧ ∀ j, 0 ≤ j → j < i → h.2.2 8 j 1 = some (16 + j) ∧ h.2.2 8 (16 + j) 1 = some j) (fun n h I => by
    show F11_init_165b (F11_init_165 n) N h = _
    unfold F11_init_165b
    rw [I.1, n0, if_pos (by omega)]) (fun n u h i0 i1 I => by
    obtain ⟨I1, I2, I3, I4⟩ := I
    obtain ⟨s1, s2⟩ := r20 u i0 i1
    have a1 : h.2.2 11 0 2 = some 0 := by rw [I3 _ _ _ (Or.inl (by decide)), r2]
    have a2 : h.2.2 38 0 0 = some 0 := by rw [I3 _ _ _ (Or.inl (by decide)), r38.1]
    have a3 : h.2.2 38 0 1 = some 1 := by rw [I3 _ _ _ (Or.inl (by decide)), r38.2]
    have a4 : h.2.2 1 0 1 = some 0 := by rw [I3 _ _ _ (Or.inl (by decide)), r1.1]
    have a5 : h.2.2 1 1 1 = some 1 := by rw [I3 _ _ _ (Or.inl (by decide)), r1.2]
    have a6 : h.2.2 20 0 u = some u := by rw [I3 _ _ _ (Or.inl (by decide)), s1]; congr 1; omega
    have a7 : h.2.2 20 1 u = some (16 + u) := by rw [I3 _ _ _ (Or.inl (by decide)), s2]; congr 1
    have b1 : ∀ k n j, k ≠ 8 → (sR h 8 u 1 (some (16 + u))).2.2 k n j = h.2.2 k n j := fun k n j q => rR_o (Or.inl q)
    have b2 : (sR h 8 u 1 (some (16 + u))).1 = h.1 := rfl
    refine ⟨sR (sR h 8 u 1 (some (16 + u))) 8 (16 + u) 1 (some u), ?_, I1, I2, ?_, ?_⟩
    · show F11_init_165b (F11_init_165 n) u h = _
      unfold F11_init_165b
      rw [I1, n0, if_neg (by omega), a1, Option.bind_some, l38, g_t (by omega), a2, Option.bind_some, a4, Option.bind_some, l20.1, g_t (by omega), Option.bind_some, l38, g_t (by omega), a3, Option.bind_some, a5, Option.bind_some, l20.2, g_t (by omega), a6, Option.bind_some, a7, lt_d, b2, I1, b1 11 0 2 (by decide), a1, Option.bind_some, l38, g_t (by omega), b1 38 0 1 (by decide), a3, Option.bind_some, b1 1 1 1 (by decide), a5, Option.bind_some, l20.2, g_t (by omega), Option.bind_some, l38, g_t (by omega), b1 38 0 0 (by decide), a2, Option.bind_some, b1 1 0 1 (by decide), a4, Option.bind_some, l20.1, g_t (by omega), b1 20 1 u (by decide), a7, Option.bind_some, b1 20 0 u (by decide), a6, lt_d, w32_of (by omega) (by omega)]
    · intro k n' j q
      rw [rR_o (by omega), rR_o (by omega)]
      exact I3 k n' j q
    · intro j j0 j1
      by_cases z : j = u
      · subst z
        rw [rR_o (Or.inr (Or.inl (by omega))), rR_s, rR_s]; exact ⟨rfl, rfl⟩
      · have t := I4 j j0 (by omega)
        rw [rR_o (Or.inr (Or.inl (by omega))), rR_o (Or.inr (Or.inl z)), rR_o (Or.inr (Or.inl (by omega))), rR_o (Or.inr (Or.inl (by omega)))]
        exact t) N.toNat j_f0 0 hs (by omega) (by omega) (by unfold j_f0; omega) ⟨rfl, rfl, fun _ _ _ _ => rfl, fun j a b => by omega⟩
  obtain ⟨h', e1, e2, e3, e4, e5⟩ := T
  exact ⟨h', e1, e2, e3, e4, e5⟩
end ID
