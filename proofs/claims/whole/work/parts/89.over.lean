/-! ===== a call is over ===== -/
def lnA (c : JM) (id : Int) : Int := match c.2.2 0 id 1 with | none => -1 | some l => c.1 4 l 0
def rcC (c : JM) (id d : Int) : Int := if d = 0 then lnA c id else if d = 1 then c.1 0 id 11 else if d = 2 then c.1 0 id 10 else if d = 3 then c.1 11 0 10 else c.1 0 id 13
def rcM (m : JM) (s d : Int) : Int := if d = 0 then m.1 136 0 s else if d = 1 then m.1 143 0 s else if d = 2 then m.1 146 0 s else if d = 3 then m.1 12 0 2 else m.1 147 0 s
theorem f_write (c : JM) (id at' : Int) (h0 : 0 ≤ c.1 3 0 2 ∧ c.1 3 0 2 < 2000000000) (ha : at' = 5 * (c.1 3 0 2 % 300)) : ∃ c', F3_write (some id) (c.1 11 0 10) c = some c' ∧ c'.2 = c.2 ∧ (∀ k n j, c'.1 k n j = if k = 27 ∧ n = 0 ∧ at' ≤ j ∧ j < at' + 5 then rcC c id (j - at') else if k = 3 ∧ n = 0 ∧ j = 2 then c.1 3 0 2 + 1 else c.1 k n j) := by
  have e1 : j_rem (c.1 3 0 2) 300 = c.1 3 0 2 % 300 := i_rem h0.1 (by omega) (by omega) (by omega)
  have e2 : w32 (c.1 3 0 2 % 300 * 5) = at' := by rw [w32_of (by omega) (by omega)]; omega
  have e3 : w32 (c.1 3 0 2 + 1) = c.1 3 0 2 + 1 := w32_of (by omega) (by omega)
  have a1 : w32 (at' + 1) = at' + 1 := w32_of (by omega) (by omega)
  have a2 : w32 (at' + 2) = at' + 2 := w32_of (by omega) (by omega)
  have a3 : w32 (at' + 3) = at' + 3 := w32_of (by omega) (by omega)
  have a4 : w32 (at' + 4) = at' + 4 := w32_of (by omega) (by omega)
  have key : ∀ v, v = lnA c id → ∃ c', F3_write_34 (some id) (c.1 11 0 10) at' (some 0) at' v c = some c' ∧ c'.2 = c.2 ∧ (∀ k n j, c'.1 k n j = if k = 27 ∧ n = 0 ∧ at' ≤ j ∧ j < at' + 5 then rcC c id (j - at') else if k = 3 ∧ n = 0 ∧ j = 2 then c.1 3 0 2 + 1 else c.1 k n j) := fun v hv => by
    unfold F3_write_34
    rw [Option.bind_some, g_t (by omega), lt_d, Option.bind_some, a1, g_t (by omega), lt_d, a2, g_t (by omega), lt_d, a3, g_t (by omega), lt_d, a4, g_t (by omega), lt_d, lt_d]
    refine ⟨_, rfl, rfl, fun k n j => ?_⟩
    simp [rI_I, e3]
    unfold rcC
    rw [← hv]
    grind (splits := 20)
  unfold F3_write
  rw [e1, e2, lt_d, Option.bind_some]
  cases q : c.2.2 0 id 1 with
  | none =>
    rw [if_pos rfl]
    exact key _ (by unfold lnA; rw [q])
  | some l =>
    rw [if_neg (by simp), Option.bind_some]
    exact key _ (by unfold lnA; rw [q])
theorem m_records (m : JM) (s at' : Int) (hs : 0 ≤ s ∧ s < 80) (h0 : 0 ≤ m.1 12 0 90 ∧ m.1 12 0 90 < 2000000000) (ha : at' = 5 * (m.1 12 0 90 % 300)) : ∃ m', F12_records s m = some m' ∧ m'.2 = m.2 ∧ (∀ k n j, m'.1 k n j = if k = 191 ∧ n = 0 ∧ at' ≤ j ∧ j < at' + 5 then rcM m s (j - at') else if k = 12 ∧ n = 0 ∧ j = 90 then m.1 12 0 90 + 1 else m.1 k n j) := by
  have e1 : j_rem (m.1 12 0 90) 300 = m.1 12 0 90 % 300 := i_rem h0.1 (by omega) (by omega) (by omega)
  have e2 : w32 (5 * (m.1 12 0 90 % 300)) = at' := by rw [w32_of (by omega) (by omega)]; omega
  have e3 : w32 (m.1 12 0 90 + 1) = m.1 12 0 90 + 1 := w32_of (by omega) (by omega)
  have a1 : w32 (at' + 1) = at' + 1 := w32_of (by omega) (by omega)
  have a2 : w32 (at' + 2) = at' + 2 := w32_of (by omega) (by omega)
  have a3 : w32 (at' + 3) = at' + 3 := w32_of (by omega) (by omega)
  have a4 : w32 (at' + 4) = at' + 4 := w32_of (by omega) (by omega)
  unfold F12_records
  rw [e1, e2, lt_d, g_t hs, g_t (by omega), lt_d, g_t hs, a1, g_t (by omega), lt_d, g_t hs, a2, g_t (by omega), lt_d, a3, g_t (by omega), lt_d, g_t hs, a4, g_t (by omega), lt_d, lt_d]
  refine ⟨_, rfl, rfl, fun k n j => ?_⟩
  simp [rI_I, e3]
  unfold rcM
  grind (splits := 20)
theorem f_end38 (c : JM) (id e at' : Int) (hh : c.2.2 0 id 0 = some e) (hr : c.1 0 id 6 = -1 ∨ c.1 0 id 6 = 0 ∨ c.1 0 id 6 = 1) (h0 : 0 ≤ c.1 3 0 2 ∧ c.1 3 0 2 < 2000000000) (ha : at' = 5 * (c.1 3 0 2 % 300)) :
    ∃ c', F11_end_38 (some id) c = some c' ∧ c'.2 = c.2 ∧ (∀ k n j, c'.1 k n j = if k = 0 ∧ n = id ∧ j = 9 then -1 else if k = 11 ∧ n = 0 ∧ j = 13 then w32 (c.1 11 0 13 - 1) else if k = 2 ∧ j = 3 ∧ c.1 0 id 9 = 4 ∧ c.2.2 0 id 5 = some n then w32 (c.1 2 n 3 - 1) else if k = 23 ∧ n = e ∧ j = c.1 0 id 6 ∧ c.1 0 id 6 ≠ -1 then w32 (c.1 23 e (c.1 0 id 6) - 1) else if k = 27 ∧ n = 0 ∧ at' ≤ j ∧ j < at' + 5 ∧ c.1 0 id 9 = 3 ∧ c.2.2 0 id 1 ≠ none then rcC c id (j - at') else if k = 3 ∧ n = 0 ∧ j = 2 ∧ c.1 0 id 9 = 3 ∧ c.2.2 0 id 1 ≠ none then c.1 3 0 2 + 1 else c.1 k n j) := by
  have k117 : ∀ c1 : JM, F11_end_117 (some id) c1 = some (sI (sI c1 0 id 9 (-1)) 11 0 13 (w32 (c1.1 11 0 13 - 1))) := fun c1 => by
    unfold F11_end_117
    rw [Option.bind_some, lt_d, lt_d]
    simp [rI_I]
  have k90 : ∀ c1 : JM, c1.2 = c.2 → (∀ n j, c1.1 0 n j = c.1 0 n j) → (∀ n j, c1.1 4 n j = c.1 4 n j) → (∀ n j, c1.1 3 n j = c.1 3 n j) → (∀ n j, c1.1 11 n j = c.1 11 n j) → ∃ c', F11_end_90 (some id) c1 = some c' ∧ c'.2 = c.2 ∧ (∀ k n j, c'.1 k n j = if k = 0 ∧ n = id ∧ j = 9 then -1 else if k = 11 ∧ n = 0 ∧ j = 13 then w32 (c.1 11 0 13 - 1) else if k = 27 ∧ n = 0 ∧ at' ≤ j ∧ j < at' + 5 ∧ c.1 0 id 9 = 3 ∧ c.2.2 0 id 1 ≠ none then rcC c id (j - at') else if k = 3 ∧ n = 0 ∧ j = 2 ∧ c.1 0 id 9 = 3 ∧ c.2.2 0 id 1 ≠ none then c.1 3 0 2 + 1 else c1.1 k n j) := fun c1 q1 q2 q3 q4 q5 => by
    unfold F11_end_90
    rw [Option.bind_some, q2, q1]
    by_cases s3 : c.1 0 id 9 = 3
    · rw [if_pos s3]
      by_cases l1 : c.2.2 0 id 1 = none
      · rw [if_pos l1, k117]
        refine ⟨_, rfl, by rw [← q1]; rfl, fun k n j => ?_⟩
        simp only [rI_I, q5]
        grind
      · rw [if_neg l1]
        obtain ⟨c2, r1, r2, r3⟩ := f_write c1 id at' (by rw [q4]; exact h0) (by rw [q4]; exact ha)
        rw [r1, Option.bind_some, k117]
        have hrc : ∀ d, rcC c1 id d = rcC c id d := fun d => by
          unfold rcC lnA
          rw [q2, q2, q2, q5, q1]
          cases c.2.2 0 id 1 with
          | none => rfl
          | some l => simp only [q3]
        refine ⟨_, rfl, by rw [← q1, ← r2]; rfl, fun k n j => ?_⟩
        simp only [rI_I, r3, q5, hrc, q4]
        grind (splits := 20)
    · rw [if_neg s3, k117]
      refine ⟨_, rfl, by rw [← q1]; rfl, fun k n j => ?_⟩
      simp only [rI_I, q5]
      grind
  have k66 : ∀ c1 : JM, c1.2 = c.2 → (∀ n j, c1.1 0 n j = c.1 0 n j) → (∀ n j, c1.1 4 n j = c.1 4 n j) → (∀ n j, c1.1 3 n j = c.1 3 n j) → (∀ n j, c1.1 11 n j = c.1 11 n j) → (∀ n j, c1.1 23 n j = c.1 23 n j) → ∃ c', F11_end_66 (some id) c1 = some c' ∧ c'.2 = c.2 ∧ (∀ k n j, c'.1 k n j = if k = 0 ∧ n = id ∧ j = 9 then -1 else if k = 11 ∧ n = 0 ∧ j = 13 then w32 (c.1 11 0 13 - 1) else if k = 23 ∧ n = e ∧ j = c.1 0 id 6 ∧ c.1 0 id 6 ≠ -1 then w32 (c.1 23 e (c.1 0 id 6) - 1) else if k = 27 ∧ n = 0 ∧ at' ≤ j ∧ j < at' + 5 ∧ c.1 0 id 9 = 3 ∧ c.2.2 0 id 1 ≠ none then rcC c id (j - at') else if k = 3 ∧ n = 0 ∧ j = 2 ∧ c.1 0 id 9 = 3 ∧ c.2.2 0 id 1 ≠ none then c.1 3 0 2 + 1 else c1.1 k n j) := fun c1 q1 q2 q3 q4 q5 q6 => by
    unfold F11_end_66
    rw [Option.bind_some, q2, q1]
    by_cases rr : c.1 0 id 6 = -1
    · rw [if_pos rr]
      obtain ⟨c', r1, r2, r3⟩ := k90 c1 q1 q2 q3 q4 q5
      refine ⟨c', r1, r2, fun k n j => ?_⟩
      rw [r3]
      grind
    · rw [if_neg rr, hh, Option.bind_some, g_t (by omega), g_t (by omega), lt_d, q6]
      obtain ⟨c', r1, r2, r3⟩ := k90 (sI c1 23 e (c.1 0 id 6) (w32 (c.1 23 e (c.1 0 id 6) - 1))) q1 (fun n j => by simp [rI_I, q2]) (fun n j => by simp [rI_I, q3]) (fun n j => by simp [rI_I, q4]) (fun n j => by simp [rI_I, q5])
      refine ⟨c', r1, r2, fun k n j => ?_⟩
      rw [r3, rI_I]
      grind (splits := 20)
  unfold F11_end_38
  rw [Option.bind_some]
  by_cases s4 : c.1 0 id 9 = 4
  · rw [if_pos s4]
    cases qg : c.2.2 0 id 5 with
    | none =>
      rw [if_pos rfl]
      obtain ⟨c', r1, r2, r3⟩ := k66 c rfl (fun _ _ => rfl) (fun _ _ => rfl) (fun _ _ => rfl) (fun _ _ => rfl) (fun _ _ => rfl)
      refine ⟨c', r1, r2, fun k n j => ?_⟩
      rw [r3]
      grind
    | some g =>
      rw [if_neg (by simp), Option.bind_some, lt_d]
      obtain ⟨c', r1, r2, r3⟩ := k66 (sI c 2 g 3 (w32 (c.1 2 g 3 - 1))) rfl (fun n j => by simp [rI_I]) (fun n j => by simp [rI_I]) (fun n j => by simp [rI_I]) (fun n j => by simp [rI_I]) (fun n j => by simp [rI_I])
      refine ⟨c', r1, r2, fun k n j => ?_⟩
      rw [r3, rI_I]
      grind (splits := 20)
  · rw [if_neg s4]
    obtain ⟨c', r1, r2, r3⟩ := k66 c rfl (fun _ _ => rfl) (fun _ _ => rfl) (fun _ _ => rfl) (fun _ _ => rfl) (fun _ _ => rfl)
    refine ⟨c', r1, r2, fun k n j => ?_⟩
    rw [r3]
    grind
