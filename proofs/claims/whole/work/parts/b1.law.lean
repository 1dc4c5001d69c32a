/-! ===== speech by the second law, and back ===== -/
theorem t_31 (v : Int) (p q : Nat) (hp : p < 2 ^ 31) (hq : q ≤ 7) (n : Nat) (h : JM) : F11_byLaw1_31 (n + 1) v p q h = if q = 7 ∨ p / 2 < 2 ^ (q + 5) then F11_byLaw1_52 v p q h else F11_byLaw1_31 n v p ((q + 1 : Nat) : Int) h := by
  show F11_byLaw1_31b (F11_byLaw1_31 n) v p q h = _
  unfold F11_byLaw1_31b
  have e1 : w32 ((q : Int) + 6) = ((q + 6 : Nat) : Int) := by rw [w32_of (by omega) (by omega)]; rfl
  have e2 : w32 ((q : Int) + 1) = ((q + 1 : Nat) : Int) := by rw [w32_of (by omega) (by omega)]; rfl
  have e3 : p < 2 ^ (q + 6) ↔ p / 2 < 2 ^ (q + 5) := by rw [show q + 6 = (q + 5) + 1 by omega, Nat.pow_succ]; omega
  rw [e1, e2, n_shr hp (by omega)]
  by_cases c7 : q = 7
  · rw [if_pos (by omega), if_pos (Or.inl c7)]
  · rw [if_neg (by omega)]
    by_cases c : p < 2 ^ (q + 6)
    · rw [if_pos ((s_z (Nat.pow_pos (by decide))).mpr c), if_pos (Or.inr (e3.mp c))]
    · rw [if_neg (fun z => c ((s_z (Nat.pow_pos (by decide))).mp z)), if_neg (fun z => z.elim c7 (fun y => c (e3.mpr y)))]
theorem t_loop (v : Int) (p : Nat) (hp : p < 2 ^ 31) (h : JM) : ∀ (k q n : Nat), q + k = 7 → (q = 0 ∨ 2 ^ (q + 4) ≤ p / 2) → F11_byLaw1_31 (n + k + 1) v p q h = F11_byLaw1_52 v p (s_q (p / 2)) h
  | 0, q, n, hq, hl => by
    have e : q = 7 := by omega
    subst e
    rw [t_31 v p 7 hp (by decide) _ h, if_pos (Or.inl rfl), s_q_of (by decide) hl (Or.inl rfl)]
  | k + 1, q, n, hq, hl => by
    rw [show n + (k + 1) + 1 = (n + k + 1) + 1 by omega, t_31 v p q hp (by omega) (n + k + 1) h]
    by_cases c : p / 2 < 2 ^ (q + 5)
    · rw [if_pos (Or.inr c), s_q_of (by omega) hl (Or.inr c)]
    · rw [if_neg (by omega)]
      exact t_loop v p hp h k (q + 1) n (by omega) (Or.inr (by rw [show q + 1 + 4 = q + 5 by omega]; omega))
theorem t_b {p : Nat} (h1 : 32 ≤ p) (h2 : p < 8192) : 2 ^ (s_q (p / 2) + 5) ≤ p ∧ p < 2 ^ (s_q (p / 2) + 5 + 1) := by
  by_cases c : 64 ≤ p
  · obtain ⟨a, b⟩ := s_b (p := p / 2) (by omega) (by omega)
    rw [show s_q (p / 2) + 5 = (s_q (p / 2) + 4) + 1 by omega, Nat.pow_succ, Nat.pow_succ (n := 2) (m := s_q (p / 2) + 4 + 1)]
    omega
  · rw [s_q0.mpr (show p / 2 < 32 by omega)]
    omega
/-- the second law's code of the size p -/
def s_p1 (v : Int) : Nat := (if 8158 ≤ v.natAbs then 8158 else v.natAbs) + 33
def s_c1 (v : Int) (p : Nat) : Int := w32 (w32 (w32 (255 - (if 0 ≤ v then 0 else 128)) - w32 (16 * (s_q (p / 2) : Int))) - ((p / 2 ^ (s_q (p / 2) + 1) % 16 : Nat) : Int))
def s_l1 (v : Int) : Int := s_c1 v (s_p1 v)
theorem t_52 (v : Int) (p : Nat) (hp : p < 8192) (h : JM) : F11_byLaw1_52 v p (s_q (p / 2)) h = some (s_c1 v p, h) := by
  have h7 := s_q7 (p / 2)
  have e1 : w32 ((s_q (p / 2) : Int) + 1) = ((s_q (p / 2) + 1 : Nat) : Int) := by rw [w32_of (by omega) (by omega)]; rfl
  have hd : p / 2 ^ (s_q (p / 2) + 1) < 2 ^ 31 := Nat.lt_of_le_of_lt (Nat.div_le_self _ _) (by omega)
  unfold F11_byLaw1_52 F11_byLaw1_66 s_c1
  rw [e1, n_shr (by omega) (by omega), show (15 : Int) = ((2 ^ 4 - 1 : Nat) : Int) from rfl, n_and hd, Nat.and_two_pow_sub_one_eq_mod]
  by_cases cv : 0 ≤ v
  · rw [if_pos cv, if_pos cv]
  · rw [if_neg cv, if_neg cv]
theorem t_25 (v : Int) (a : Nat) (ha : a ≤ 8158) (h : JM) : F11_byLaw1_25 v a h = some (s_c1 v (a + 33), h) := by
  unfold F11_byLaw1_25
  have e1 : w32 ((a : Int) + 33) = ((a + 33 : Nat) : Int) := by rw [w32_of (by omega) (by omega)]; rfl
  rw [lt_d, e1]
  have hl := t_loop v (a + 33) (by omega) h 7 0 (j_fu - 8) rfl (Or.inl rfl)
  rw [show j_fu - 8 + 7 + 1 = j_fu by unfold j_fu; omega] at hl
  show F11_byLaw1_31 j_fu v _ ((0 : Nat) : Int) h = _
  rw [hl, t_52 v _ (by omega) h]
theorem t_30 (v : Int) (a : Nat) (ha : a ≤ 8158) (h : JM) : F12_codeOf_30 v a h = some (s_c1 v (a + 33), h) := by
  unfold F12_codeOf_30
  have e1 : w32 ((a : Int) + 33) = ((a + 33 : Nat) : Int) := by rw [w32_of (by omega) (by omega)]; rfl
  rw [lt_d, e1]
  have h33 : 33 ≤ a + 33 := by omega
  have hp : a + 33 < 8192 := by omega
  generalize a + 33 = p at h33 hp ⊢
  have h7 := s_q7 (p / 2)
  obtain ⟨b1, b2⟩ := t_b (p := p) (by omega) hp
  rw [f_highest p (s_q (p / 2) + 5) (by omega) b1 b2]
  have e4 : w32 (((s_q (p / 2) + 5 : Nat) : Int) - 5) = (s_q (p / 2) : Int) := by rw [w32_of (by omega) (by omega)]; omega
  have e5 : w32 ((s_q (p / 2) : Int) + 1) = ((s_q (p / 2) + 1 : Nat) : Int) := by rw [w32_of (by omega) (by omega)]; rfl
  have hd : p / 2 ^ (s_q (p / 2) + 1) < 2 ^ 31 := Nat.lt_of_le_of_lt (Nat.div_le_self _ _) (by omega)
  show lt_ (w32 (((s_q (p / 2) + 5 : Nat) : Int) - 5)) (fun x3 => if 0 ≤ v then F12_codeOf_56 p x3 255 0 h else F12_codeOf_56 p x3 255 128 h) = _
  rw [lt_d, e4]
  unfold F12_codeOf_56 s_c1
  rw [e5, n_shr (by omega) (by omega), show (16 : Int) = ((16 : Nat) : Int) from rfl, n_rem hd (by decide) (by decide)]
  by_cases cv : 0 ≤ v
  · rw [if_pos cv, if_pos cv]
  · rw [if_neg cv, if_neg cv]
theorem f_byLaw1 {v : Int} (hv : -8191 ≤ v ∧ v ≤ 8191) (h : JM) : F11_byLaw1 v h = some (s_l1 v, h) := by
  obtain ⟨e, hs⟩ := s_abs hv
  have key : F11_byLaw1_10 v (v.natAbs : Int) h = some (s_l1 v, h) := by
    unfold F11_byLaw1_10 s_l1 s_p1
    by_cases c : 8158 ≤ v.natAbs
    · rw [if_pos (by omega), if_pos c]; exact t_25 v 8158 (by omega) h
    · rw [if_neg (by omega), if_neg c]; exact t_25 v _ (by omega) h
  unfold F11_byLaw1
  by_cases c : 0 ≤ v
  · rw [if_pos c] at e ⊢
    rw [← e] at key; exact key
  · rw [if_neg c] at e ⊢
    rw [← e] at key; exact key
theorem f_codeOf1 {v : Int} (hv : -8191 ≤ v ∧ v ≤ 8191) (h : JM) : F12_codeOf 1 v h = some (s_l1 v, h) := by
  obtain ⟨e, hs⟩ := s_abs hv
  have key : F12_codeOf_10 1 v (v.natAbs : Int) h = some (s_l1 v, h) := by
    unfold F12_codeOf_10 s_l1 s_p1
    rw [if_pos rfl]
    by_cases c : 8158 ≤ v.natAbs
    · rw [if_pos (by omega), if_pos c]; exact t_30 v 8158 (by omega) h
    · rw [if_neg (by omega), if_neg c]; exact t_30 v _ (by omega) h
  unfold F12_codeOf
  by_cases c : 0 ≤ v
  · rw [if_pos c] at e ⊢
    rw [← e] at key; exact key
  · rw [if_neg c] at e ⊢
    rw [← e] at key; exact key
theorem s_m16 {p : Nat} : s_m p < 16 := by
  unfold s_m
  split
  · omega
  · exact Nat.mod_lt _ (by decide)
theorem s_l0r (v : Int) : ∃ n : Nat, n < 256 ∧ s_l0 v = (n : Int) := by
  unfold s_l0
  generalize hp : v.natAbs / 2 = p
  have h7 := s_q7 p
  have hm := s_m16 (p := p)
  have e : w32 (w32 ((if 0 ≤ v then 128 else 0) + w32 (16 * (s_q p : Int))) + (s_m p : Int)) = ((((if 0 ≤ v then 128 else 0) + 16 * s_q p + s_m p : Nat)) : Int) := by
    rw [w32_of (x := 16 * (s_q p : Int)) (by omega) (by omega)]
    split
    · rw [w32_of (x := 128 + 16 * (s_q p : Int)) (by omega) (by omega), w32_of (by omega) (by omega)]; omega
    · rw [w32_of (x := 0 + 16 * (s_q p : Int)) (by omega) (by omega), w32_of (by omega) (by omega)]; omega
  rw [e]
  have hk : (if 0 ≤ v then 128 else 0) + 16 * s_q p + s_m p < 2 ^ 8 := by split <;> omega
  generalize (if 0 ≤ v then 128 else 0) + 16 * s_q p + s_m p = k at hk ⊢
  exact ⟨k ^^^ 85, Nat.xor_lt_two_pow hk (by decide), by rw [show (85 : Int) = ((85 : Nat) : Int) from rfl, n_xor (by omega) (by decide)]⟩
theorem s_l1r (v : Int) : ∃ n : Nat, n < 256 ∧ s_l1 v = (n : Int) := by
  unfold s_l1 s_c1
  generalize s_p1 v = p
  have h7 := s_q7 (p / 2)
  have hm : p / 2 ^ (s_q (p / 2) + 1) % 16 < 16 := Nat.mod_lt _ (by decide)
  generalize p / 2 ^ (s_q (p / 2) + 1) % 16 = k at hm ⊢
  generalize s_q (p / 2) = q at h7 ⊢
  by_cases cv : 0 ≤ v
  · refine ⟨255 - 16 * q - k, by omega, ?_⟩
    rw [if_pos cv, w32_of (x := 255 - 0) (by omega) (by omega), w32_of (x := 16 * (q : Int)) (by omega) (by omega), w32_of (x := 255 - 0 - 16 * (q : Int)) (by omega) (by omega), w32_of (by omega) (by omega)]; omega
  · refine ⟨127 - 16 * q - k, by omega, ?_⟩
    rw [if_neg cv, w32_of (x := 255 - 128) (by omega) (by omega), w32_of (x := 16 * (q : Int)) (by omega) (by omega), w32_of (x := 255 - 128 - 16 * (q : Int)) (by omega) (by omega), w32_of (by omega) (by omega)]; omega
theorem s_l00 : s_l0 0 = 213 := by decide +kernel
/-- back from a code -/
def s_b0 (k : Int) : Int := if 128 ≤ j_xor k 85 then (if j_and (j_div (j_xor k 85) 16) 7 = 0 then w32 (2 * (w32 ((w32 (2 * j_and (j_xor k 85) 15)) + 1))) else w32 (2 * (j_shl (w32 ((w32 (2 * j_and (j_xor k 85) 15)) + 33)) (w32 (j_and (j_div (j_xor k 85) 16) 7 - 1))))) else w32 (-(if j_and (j_div (j_xor k 85) 16) 7 = 0 then w32 (2 * (w32 ((w32 (2 * j_and (j_xor k 85) 15)) + 1))) else w32 (2 * (j_shl (w32 ((w32 (2 * j_and (j_xor k 85) 15)) + 33)) (w32 (j_and (j_div (j_xor k 85) 16) 7 - 1))))))
def s_b1 (k : Int) : Int := if w32 (255 - k) ≤ 127 then w32 ((j_shl (w32 ((w32 (2 * (j_and (w32 (255 - k)) 15))) + 33)) (j_and (j_div (w32 (255 - k)) 16) 7)) - 33) else w32 (-(w32 ((j_shl (w32 ((w32 (2 * (j_and (w32 (255 - k)) 15))) + 33)) (j_and (j_div (w32 (255 - k)) 16) 7)) - 33)))
theorem s_bb : ∀ k : Nat, k < 256 → (-8191 ≤ s_b0 k ∧ s_b0 k ≤ 8191) ∧ (-8191 ≤ s_b1 k ∧ s_b1 k ≤ 8191) := by decide +kernel
theorem s_xr {k : Nat} (hk : k < 256) : j_rem (j_div k 16) 8 = j_and (j_div k 16) 7 ∧ j_rem k 16 = j_and k 15 := by
  rw [show (16 : Int) = ((16 : Nat) : Int) from rfl, n_div (by omega) (by decide) (by decide), show (8 : Int) = ((8 : Nat) : Int) from rfl, n_rem (by omega) (by decide) (by decide), n_rem (by omega) (by decide) (by decide), show (7 : Int) = ((2 ^ 3 - 1 : Nat) : Int) from rfl, n_and (by omega), show (15 : Int) = ((2 ^ 4 - 1 : Nat) : Int) from rfl, n_and (by omega), Nat.and_two_pow_sub_one_eq_mod, Nat.and_two_pow_sub_one_eq_mod]
  exact ⟨rfl, rfl⟩
theorem s_x85 {k : Nat} (hk : k < 256) : ∃ n : Nat, n < 256 ∧ j_xor k 85 = (n : Int) :=
  ⟨k ^^^ 85, Nat.xor_lt_two_pow (n := 8) hk (by decide), by rw [show (85 : Int) = ((85 : Nat) : Int) from rfl, n_xor (by omega) (by decide)]⟩
theorem f_from0 (k : Int) (h : JM) : F11_fromLaw0 k h = some (s_b0 k, h) := by
  unfold F11_fromLaw0 s_b0
  rw [lt_d, lt_d, lt_d]
  by_cases c : j_and (j_div (j_xor k 85) 16) 7 = 0
  · rw [if_pos c, if_pos c]
    unfold F11_fromLaw0_44
    split <;> rfl
  · rw [if_neg c, if_neg c]
    unfold F11_fromLaw0_44
    split <;> rfl
theorem f_from1 (k : Int) (h : JM) : F11_fromLaw1 k h = some (s_b1 k, h) := by
  unfold F11_fromLaw1 s_b1
  rw [lt_d, lt_d, lt_d]
  split <;> rfl
theorem f_back0 {k : Nat} (hk : k < 256) (h : JM) : F12_back 0 k h = some (s_b0 k, h) := by
  obtain ⟨x, hx, ex⟩ := s_x85 hk
  obtain ⟨r1, r2⟩ := s_xr hx
  unfold F12_back F12_back_17 s_b0
  rw [if_neg (by decide), ex, r1, r2, lt_d, lt_d, if_neg (by decide)]
  by_cases c : j_and (j_div x 16) 7 = 0
  · rw [if_pos c, if_pos c]
    unfold F12_back_94
    split <;> rfl
  · rw [if_neg c, if_neg c]
    unfold F12_back_94
    split <;> rfl
theorem f_back1 {k : Nat} (hk : k < 256) (h : JM) : F12_back 1 k h = some (s_b1 k, h) := by
  have ex : w32 (255 - (k : Int)) = ((255 - k : Nat) : Int) := by rw [w32_of (by omega) (by omega)]; omega
  obtain ⟨r1, r2⟩ := s_xr (k := 255 - k) (by omega)
  unfold F12_back F12_back_17 s_b1
  rw [if_pos rfl, ex, r1, r2, lt_d, lt_d, if_pos rfl, lt_d]
  split <;> rfl
/-- what a line of exchange e hears of v -/
def s_h (e v : Int) : Int := if e = 0 then s_b0 (s_l0 v) else s_b1 (s_l1 v)
theorem s_hr {e v : Int} : -8191 ≤ s_h e v ∧ s_h e v ≤ 8191 := by
  unfold s_h
  split
  · obtain ⟨n, h1, h2⟩ := s_l0r v
    rw [h2]; exact (s_bb n h1).1
  · obtain ⟨n, h1, h2⟩ := s_l1r v
    rw [h2]; exact (s_bb n h1).2
theorem f_asHeard {e v : Int} (hv : -8191 ≤ v ∧ v ≤ 8191) (h : JM) : F11_asHeard e v h = some (s_h e v, h) := by
  unfold F11_asHeard s_h
  by_cases c : e = 0
  · rw [if_pos c, if_pos c, f_byLaw0 hv]
    show (F11_fromLaw0 (s_l0 v) h).bind _ = _
    rw [f_from0]; rfl
  · rw [if_neg c, if_neg c, f_byLaw1 hv]
    show (F11_fromLaw1 (s_l1 v) h).bind _ = _
    rw [f_from1]; rfl
theorem f_heardOf {e v : Int} (he : e = 0 ∨ e = 1) (hv : -8191 ≤ v ∧ v ≤ 8191) (h : JM) : F12_heardOf e v h = some (s_h e v, h) := by
  unfold F12_heardOf s_h
  rcases he with rfl | rfl
  · obtain ⟨n, h1, h2⟩ := s_l0r v
    rw [if_pos rfl, f_codeOf0 hv]
    show (F12_back 0 (s_l0 v) h).bind _ = _
    rw [h2, f_back0 h1]; rfl
  · obtain ⟨n, h1, h2⟩ := s_l1r v
    rw [if_neg (by decide), f_codeOf1 hv]
    show (F12_back 1 (s_l1 v) h).bind _ = _
    rw [h2, f_back1 h1]; rfl
