/-! ===== speech by two laws ===== -/
def s_q (p : Nat) : Nat := if p < 32 then 0 else if p < 64 then 1 else if p < 128 then 2 else if p < 256 then 3 else if p < 512 then 4 else if p < 1024 then 5 else if p < 2048 then 6 else 7
theorem s_q_of {p q : Nat} (hq : q ≤ 7) (h1 : q = 0 ∨ 2 ^ (q + 4) ≤ p) (h2 : q = 7 ∨ p < 2 ^ (q + 5)) : s_q p = q := by
  have h8 : q = 0 ∨ q = 1 ∨ q = 2 ∨ q = 3 ∨ q = 4 ∨ q = 5 ∨ q = 6 ∨ q = 7 := by omega
  rcases h8 with rfl | rfl | rfl | rfl | rfl | rfl | rfl | rfl <;> (unfold s_q; simp at h1 h2; (repeat' split) <;> omega)
theorem s_z {p b : Nat} (hb : 0 < b) : ((p / b : Nat) : Int) = 0 ↔ p < b := by
  rw [show ((((p / b : Nat) : Int)) = 0) ↔ (p / b = 0) by omega, Nat.div_eq_zero_iff]
  omega
theorem sp_15 (v : Int) (p q : Nat) (hp : p < 2 ^ 31) (hq : q ≤ 7) (n : Nat) (h : JM) : F11_byLaw0_15 (n + 1) v p q h = if q = 7 ∨ p < 2 ^ (q + 5) then F11_byLaw0_35 v p q h else F11_byLaw0_15 n v p ((q + 1 : Nat) : Int) h := by
  show F11_byLaw0_15b (F11_byLaw0_15 n) v p q h = _
  unfold F11_byLaw0_15b
  have e1 : w32 ((q : Int) + 5) = ((q + 5 : Nat) : Int) := by rw [w32_of (by omega) (by omega)]; rfl
  have e2 : w32 ((q : Int) + 1) = ((q + 1 : Nat) : Int) := by rw [w32_of (by omega) (by omega)]; rfl
  rw [e1, e2, n_shr hp (by omega)]
  by_cases c7 : q = 7
  · rw [if_pos (by omega), if_pos (Or.inl c7)]
  · rw [if_neg (by omega)]
    by_cases c : p < 2 ^ (q + 5)
    · rw [if_pos ((s_z (Nat.pow_pos (by decide))).mpr c), if_pos (Or.inr c)]
    · rw [if_neg (fun z => c ((s_z (Nat.pow_pos (by decide))).mp z)), if_neg (by omega)]
theorem sp_loop (v : Int) (p : Nat) (hp : p < 2 ^ 31) (h : JM) : ∀ (k q n : Nat), q + k = 7 → (q = 0 ∨ 2 ^ (q + 4) ≤ p) → F11_byLaw0_15 (n + k + 1) v p q h = F11_byLaw0_35 v p (s_q p) h
  | 0, q, n, hq, hl => by
    have e : q = 7 := by omega
    subst e
    rw [sp_15 v p 7 hp (by decide) _ h, if_pos (Or.inl rfl), s_q_of (by decide) hl (Or.inl rfl)]
  | k + 1, q, n, hq, hl => by
    rw [show n + (k + 1) + 1 = (n + k + 1) + 1 by omega, sp_15 v p q hp (by omega) (n + k + 1) h]
    by_cases c : p < 2 ^ (q + 5)
    · rw [if_pos (Or.inr c), s_q_of (by omega) hl (Or.inr c)]
    · rw [if_neg (by omega)]
      exact sp_loop v p hp h k (q + 1) n (by omega) (Or.inr (by rw [show q + 1 + 4 = q + 5 by omega]; omega))
theorem sh_2 (p k : Nat) (hp : p < 2 ^ 31) (hk : k < 30) (n : Nat) (h : JM) : F12_highest_2 (n + 1) p k h = if p < 2 ^ (k + 1) then some ((k : Int), h) else F12_highest_2 n p ((k + 1 : Nat) : Int) h := by
  show F12_highest_2b (F12_highest_2 n) p k h = _
  unfold F12_highest_2b
  have e2 : w32 ((k : Int) + 1) = ((k + 1 : Nat) : Int) := by rw [w32_of (by omega) (by omega)]; rfl
  rw [e2, n_shr hp (by omega)]
  by_cases c : p < 2 ^ (k + 1)
  · rw [if_pos ((s_z (Nat.pow_pos (by decide))).mpr c), if_pos c]
  · rw [if_neg (fun z => c ((s_z (Nat.pow_pos (by decide))).mp z)), if_neg c]
theorem sh_loop (p b : Nat) (hp : p < 2 ^ 31) (hb : b < 30) (h1 : 2 ^ b ≤ p) (h2 : p < 2 ^ (b + 1)) (h : JM) : ∀ (j k n : Nat), k + j = b → F12_highest_2 (n + j + 1) p k h = some ((b : Int), h)
  | 0, k, n, hk => by
    have e : k = b := by omega
    subst e
    rw [sh_2 p k hp hb _ h, if_pos h2]
  | j + 1, k, n, hk => by
    have : 2 ^ (k + 1) ≤ 2 ^ b := Nat.pow_le_pow_right (by decide) (by omega)
    rw [show n + (j + 1) + 1 = (n + j + 1) + 1 by omega, sh_2 p k hp (by omega) _ h, if_neg (by omega)]
    exact sh_loop p b hp hb h1 h2 h j (k + 1) n (by omega)
theorem f_highest (p b : Nat) (hb : b < 30) (h1 : 2 ^ b ≤ p) (h2 : p < 2 ^ (b + 1)) (h : JM) : F12_highest p h = some ((b : Int), h) := by
  have hp : p < 2 ^ 31 := Nat.lt_of_lt_of_le h2 (Nat.pow_le_pow_right (by decide) (by omega))
  have := sh_loop p b hp hb h1 h2 h b 0 (j_fu - b - 1) (by omega)
  rw [show j_fu - b - 1 + b + 1 = j_fu by unfold j_fu; omega] at this
  exact this
/-- the place of the highest bit, and the segment -/
theorem s_b {p : Nat} (h1 : 32 ≤ p) (h2 : p < 4096) : 2 ^ (s_q p + 4) ≤ p ∧ p < 2 ^ (s_q p + 4 + 1) := by
  have h8 : (32 ≤ p ∧ p < 64) ∨ (64 ≤ p ∧ p < 128) ∨ (128 ≤ p ∧ p < 256) ∨ (256 ≤ p ∧ p < 512) ∨ (512 ≤ p ∧ p < 1024) ∨ (1024 ≤ p ∧ p < 2048) ∨ (2048 ≤ p ∧ p < 4096) := by omega
  rcases h8 with z | z | z | z | z | z | z
  · rw [s_q_of (q := 1) (by decide) (Or.inr (by simpa using z.1)) (Or.inr (by simpa using z.2))]; simpa using z
  · rw [s_q_of (q := 2) (by decide) (Or.inr (by simpa using z.1)) (Or.inr (by simpa using z.2))]; simpa using z
  · rw [s_q_of (q := 3) (by decide) (Or.inr (by simpa using z.1)) (Or.inr (by simpa using z.2))]; simpa using z
  · rw [s_q_of (q := 4) (by decide) (Or.inr (by simpa using z.1)) (Or.inr (by simpa using z.2))]; simpa using z
  · rw [s_q_of (q := 5) (by decide) (Or.inr (by simpa using z.1)) (Or.inr (by simpa using z.2))]; simpa using z
  · rw [s_q_of (q := 6) (by decide) (Or.inr (by simpa using z.1)) (Or.inr (by simpa using z.2))]; simpa using z
  · rw [s_q_of (q := 7) (by decide) (Or.inr (by simpa using z.1)) (Or.inl rfl)]; simpa using z
theorem s_q7 (p : Nat) : s_q p ≤ 7 := by unfold s_q; (repeat' split) <;> omega
theorem s_q0 {p : Nat} : s_q p = 0 ↔ p < 32 := by unfold s_q; (repeat' split) <;> omega
def s_m (p : Nat) : Nat := if p < 32 then p / 2 else p / 2 ^ s_q p % 16
def s_l0 (v : Int) : Int := j_xor (w32 (w32 ((if 0 ≤ v then 128 else 0) + w32 (16 * (s_q (v.natAbs / 2) : Int))) + (s_m (v.natAbs / 2) : Int))) 85
theorem sp_35 (v : Int) (p : Nat) (hp : p < 4096) (h : JM) : F11_byLaw0_35 v p (s_q p) h = some (j_xor (w32 (w32 ((if 0 ≤ v then 128 else 0) + w32 (16 * (s_q p : Int))) + (s_m p : Int))) 85, h) := by
  unfold F11_byLaw0_35 F11_byLaw0_51 F11_byLaw0_63
  have h7 := s_q7 p
  by_cases c : p < 32
  · have c0 := s_q0.mpr c
    rw [if_pos (by omega), show (2 : Int) = ((2 : Nat) : Int) from rfl, n_div (by omega) (by decide) (by decide)]
    unfold s_m
    rw [if_pos c]
    by_cases cv : 0 ≤ v
    · rw [if_pos cv, if_pos cv]
    · rw [if_neg cv, if_neg cv]
  · have c0 : ¬ s_q p = 0 := fun z => c (s_q0.mp z)
    have hd : p / 2 ^ s_q p < 2 ^ 31 := Nat.lt_of_le_of_lt (Nat.div_le_self _ _) (by omega)
    rw [if_neg (by omega), n_shr (by omega) (by omega), show (15 : Int) = ((2 ^ 4 - 1 : Nat) : Int) from rfl, n_and hd, Nat.and_two_pow_sub_one_eq_mod]
    unfold s_m
    rw [if_neg c]
    by_cases cv : 0 ≤ v
    · rw [if_pos cv, if_pos cv]
    · rw [if_neg cv, if_neg cv]
theorem s_abs {v : Int} (hv : -8191 ≤ v ∧ v ≤ 8191) : (if 0 ≤ v then v else w32 (-v)) = (v.natAbs : Int) ∧ v.natAbs < 8192 := by
  split
  · exact ⟨by omega, by omega⟩
  · exact ⟨by rw [w32_of (by omega) (by omega)]; omega, by omega⟩
theorem f_byLaw0 {v : Int} (hv : -8191 ≤ v ∧ v ≤ 8191) (h : JM) : F11_byLaw0 v h = some (s_l0 v, h) := by
  obtain ⟨e, hs⟩ := s_abs hv
  have key : F11_byLaw0_10 v (v.natAbs : Int) h = some (s_l0 v, h) := by
    unfold F11_byLaw0_10
    rw [lt_d, show (2 : Int) = ((2 : Nat) : Int) from rfl, n_div (by omega) (by decide) (by decide)]
    have hl := sp_loop v (v.natAbs / 2) (by omega) h 7 0 (j_fu - 8) rfl (Or.inl rfl)
    rw [show j_fu - 8 + 7 + 1 = j_fu by unfold j_fu; omega] at hl
    show F11_byLaw0_15 j_fu v _ ((0 : Nat) : Int) h = _
    rw [hl, sp_35 v _ (by omega) h]
    rfl
  unfold F11_byLaw0
  by_cases c : 0 ≤ v
  · rw [if_pos c] at e ⊢
    rw [← e] at key; exact key
  · rw [if_neg c] at e ⊢
    rw [← e] at key; exact key
theorem f_codeOf0 {v : Int} (hv : -8191 ≤ v ∧ v ≤ 8191) (h : JM) : F12_codeOf 0 v h = some (s_l0 v, h) := by
  obtain ⟨e, hs⟩ := s_abs hv
  have key : F12_codeOf_10 0 v (v.natAbs : Int) h = some (s_l0 v, h) := by
    unfold F12_codeOf_10
    rw [if_neg (by decide), lt_d, show (2 : Int) = ((2 : Nat) : Int) from rfl, n_div (by omega) (by decide) (by decide)]
    have hp : v.natAbs / 2 < 4096 := by omega
    have h7 := s_q7 (v.natAbs / 2)
    unfold s_l0
    generalize v.natAbs / 2 = p at hp h7 ⊢
    by_cases c : 32 ≤ p
    · obtain ⟨b1, b2⟩ := s_b c hp
      rw [if_pos (by omega), f_highest p (s_q p + 4) (by omega) b1 b2]
      show F12_codeOf_94 v p (w32 (((s_q p + 4 : Nat) : Int) - 4)) h = _
      have e4 : w32 (((s_q p + 4 : Nat) : Int) - 4) = (s_q p : Int) := by rw [w32_of (by omega) (by omega)]; omega
      have hd : p / 2 ^ s_q p < 2 ^ 31 := Nat.lt_of_le_of_lt (Nat.div_le_self _ _) (by omega)
      unfold F12_codeOf_94 F12_codeOf_115 F12_codeOf_128 s_m
      rw [e4, if_pos (by omega), n_shr (by omega) (by omega), show (16 : Int) = ((16 : Nat) : Int) from rfl, n_rem hd (by decide) (by decide), if_neg (show ¬ p < 32 by omega)]
      by_cases cv : 0 ≤ v
      · rw [if_pos cv, if_pos cv]
      · rw [if_neg cv, if_neg cv]
    · have c0 : s_q p = 0 := s_q0.mpr (by omega)
      rw [if_neg (by omega)]
      unfold F12_codeOf_94 F12_codeOf_115 F12_codeOf_128 s_m
      rw [if_neg (by omega), show (2 : Int) = ((2 : Nat) : Int) from rfl, n_div (by omega) (by decide) (by decide), if_pos (show p < 32 by omega), c0]
      by_cases cv : 0 ≤ v
      · rw [if_pos cv, if_pos cv]; rfl
      · rw [if_neg cv, if_neg cv]; rfl
  unfold F12_codeOf
  by_cases c : 0 ≤ v
  · rw [if_pos c] at e ⊢
    rw [← e] at key; exact key
  · rw [if_neg c] at e ⊢
    rw [← e] at key; exact key
