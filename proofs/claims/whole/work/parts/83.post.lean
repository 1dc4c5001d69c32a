/-! ===== messages: how they are posted ===== -/
theorem so_fu : (100 : Nat) < j_fu := by unfold j_fu; omega
theorem m_goes39 (e k n : Int) (he : 0 ≤ e ∧ e < 2) (hk : 0 ≤ k ∧ k < 512) (hn : n ≤ 16) : ∀ (fu : Nat) (i : Int) (h : JM), 0 ≤ i → i ≤ n → (n - i).toNat < fu → h.1 12 0 57 = n →
    ∃ h' : JM, F12_goes_39 fu e k i h = some h' ∧ h'.2 = h.2 ∧ (∀ k' n' j', h'.1 k' n' j' = if k' = 158 ∧ n' = 0 ∧ 16 * k + i ≤ j' ∧ j' < 16 * k + n then h.1 156 0 (j' - 16 * k) else if k' = 159 ∧ n' = 0 ∧ j' = k then n else if k' = 160 ∧ n' = 0 ∧ j' = e then w32 (h.1 160 0 e + 1) else h.1 k' n' j')
  | 0, i, h, _, _, hf, _ => by omega
  | fu + 1, i, h, h0, h1, hf, hm => by
    show ∃ h' : JM, F12_goes_39b (F12_goes_39 fu) e k i h = some h' ∧ _
    unfold F12_goes_39b
    rw [hm]
    by_cases c : n ≤ i
    · rw [if_pos c, g_t hk, lt_d, g_t he, g_t he, lt_d]
      refine ⟨_, rfl, rfl, fun k' n' j' => ?_⟩
      simp only [rI_I]
      have : i = n := by omega
      grind
    · have e1 : w32 (16 * k) = 16 * k := w32_of (by omega) (by omega)
      have e2 : w32 (16 * k + i) = 16 * k + i := w32_of (by omega) (by omega)
      have e3 : w32 (i + 1) = i + 1 := w32_of (by omega) (by omega)
      rw [if_neg c, e1, e2, e3, g_t (by omega), g_t (by omega), lt_d]
      obtain ⟨h', r1, r2, r3⟩ := m_goes39 e k n he hk hn fu (i + 1) (sI h 158 0 (16 * k + i) (h.1 156 0 i)) (by omega) (by omega) (by omega) (by rw [rI_I]; simp [hm])
      refine ⟨h', r1, r2, fun k' n' j' => ?_⟩
      rw [r3]
      simp only [rI_I]
      grind
/-- the bytes L are a message, and x is its number -/
def mg (L : List Nat) (x : Int) : Prop :=
  (∃ k ty : Nat, k < 16 ∧ (ty = 2 ∨ ty = 3 ∨ ty = 5) ∧ L = [k, ty] ∧ x = ((ty * 2 ^ 59 + k * 2 ^ 55 : Nat) : Int)) ∨
  (∃ k a : Nat, k < 16 ∧ a < 256 ∧ L = [k, 4, a] ∧ x = ((4 * 2 ^ 59 + k * 2 ^ 55 + a : Nat) : Int)) ∨
  (∃ (k w : Nat) (K : List Nat), k < 16 ∧ w ≤ 5 ∧ k_ok K ∧ L = k :: 1 :: w :: K.length :: K ∧ x = ((2 ^ 59 + k * 2 ^ 55 + w * 2 ^ 52 + k_P K : Nat) : Int))
theorem mg_len {L : List Nat} {x : Int} (h : mg L x) : 2 ≤ L.length ∧ L.length ≤ 16 := by
  rcases h with ⟨k, ty, _, _, e, _⟩ | ⟨k, a, _, _, e, _⟩ | ⟨k, w, K, _, _, hK, e, _⟩
  · rw [e]; simp
  · rw [e]; simp
  · rw [e]; have := hK.1; simp; omega
theorem f_pack {ty k a : Nat} (hty : ty < 8) (hk : k < 16) (ha : a < 2 ^ 55) (h : JM) : F9_pack ty k a h = some (((ty * 2 ^ 59 + k * 2 ^ 55 + a : Nat) : Int), h) := by
  unfold F9_pack
  have h1 : ty * 2 ^ 59 ≤ 7 * 2 ^ 59 := Nat.mul_le_mul_right _ (by omega)
  have h2 : k * 2 ^ 55 ≤ 15 * 2 ^ 55 := Nat.mul_le_mul_right _ (by omega)
  rw [show (59 : Int) = ((59 : Nat) : Int) from rfl, show (55 : Int) = ((55 : Nat) : Int) from rfl, n_lshl (by decide) (by omega), n_lshl (by decide) (by omega), n_lor (by omega) (by omega), Nat.or_comm, k_or (show k * 2 ^ 55 < 2 ^ 59 by omega)]
  have e : k * 2 ^ 55 + ty * 2 ^ 59 = (k + ty * 2 ^ 4) * 2 ^ 55 := by rw [Nat.add_mul, Nat.mul_assoc]
  rw [n_lor (by omega) (by omega), Nat.or_comm, e, k_or ha]
  have : a + (k + ty * 2 ^ 4) * 2 ^ 55 = ty * 2 ^ 59 + k * 2 ^ 55 + a := by rw [← e]; omega
  rw [this]
theorem f_packIam {w : Nat} {K : List Nat} (hw : w < 8) (hK : k_ok K) (h : JM) : F9_packIam w (k_P K) h = some (((w * 2 ^ 52 + k_P K : Nat) : Int), h) := by
  unfold F9_packIam
  have h1 : w * 2 ^ 52 ≤ 7 * 2 ^ 52 := Nat.mul_le_mul_right _ (by omega)
  have h2 := k_P_lt hK
  rw [show (52 : Int) = ((52 : Nat) : Int) from rfl, n_lshl (by decide) (by omega), n_lor (by omega) (by omega), Nat.or_comm, k_or h2, Nat.add_comm]
/-- a link's counters and messages in class and reference -/
def r_m (B : Int) (c m : JM) (e : Int) : Prop :=
  (m.1 160 0 e = c.1 5 e 0 ∧ m.1 161 0 e = c.1 5 e 1 ∧ m.1 162 0 e = c.1 5 e 2 ∧ m.1 163 0 e = c.1 5 e 3 ∧ m.1 164 0 e = c.1 5 e 4 ∧ m.1 165 0 e = c.1 5 e 5 ∧ m.1 166 0 e = c.1 5 e 6 ∧ m.1 167 0 e = c.1 5 e 7) ∧
  (0 ≤ c.1 5 e 1 ∧ c.1 5 e 1 ≤ c.1 5 e 2 ∧ c.1 5 e 2 ≤ c.1 5 e 3 ∧ c.1 5 e 3 ≤ c.1 5 e 0 ∧ c.1 5 e 0 ≤ B ∧ c.1 5 e 0 - c.1 5 e 1 ≤ 200 ∧ 0 ≤ c.1 5 e 4 ∧ c.1 5 e 4 ≤ B ∧ 0 ≤ c.1 5 e 7 ∧ c.1 5 e 7 ≤ B ∧ (c.1 5 e 5 = 0 ∨ c.1 5 e 5 = 1) ∧ (c.1 5 e 6 = 0 ∨ c.1 5 e 6 = 1)) ∧
  (∀ i, c.1 5 e 1 ≤ i → i < c.1 5 e 0 → ∃ L : List Nat, mg L (c.2.1 31 e (i % 200)) ∧ m.1 159 0 (256 * e + i % 256) = (L.length : Int) ∧ ∀ j : Nat, j < L.length → m.1 158 0 (16 * (256 * e + i % 256) + j) = (L.getD j 0 : Int))
/-- what a post changes -/
def w_post (k : Nat) (_ : Int) : Bool := k == 5 || k == 31
def w_goes (k : Nat) (_ : Int) : Bool := k == 158 || k == 159 || k == 160
/-- b is a outside of w -/
def so (w : Nat → Int → Bool) (a b : JM) : Prop := ∀ k n j, w k j = false → b.1 k n j = a.1 k n j ∧ b.2.1 k n j = a.2.1 k n j ∧ b.2.2 k n j = a.2.2 k n j
theorem so_rfl {w : Nat → Int → Bool} (a : JM) : so w a a := fun _ _ _ _ => ⟨rfl, rfl, rfl⟩
theorem so_tr {w : Nat → Int → Bool} {a b d : JM} (h1 : so w a b) (h2 : so w b d) : so w a d := fun k n j q => ⟨(h2 k n j q).1.trans (h1 k n j q).1, (h2 k n j q).2.1.trans (h1 k n j q).2.1, (h2 k n j q).2.2.trans (h1 k n j q).2.2⟩
theorem so_mono {w w' : Nat → Int → Bool} {a b : JM} (hw : ∀ k j, w' k j = false → w k j = false) (h : so w a b) : so w' a b := fun k n j q => h k n j (hw k j q)
theorem so_I {w : Nat → Int → Bool} {a b : JM} (h : so w a b) {k : Nat} {j : Int} (hw : w k j = true) (n v : Int) : so w a (sI b k n j v) := fun k' n' j' q => by
  have : ¬ (k' = k ∧ n' = n ∧ j' = j) := fun z => by rw [z.1, z.2.2, hw] at q; cases q
  rw [rI_I, if_neg this]
  exact h k' n' j' q
theorem so_R {w : Nat → Int → Bool} {a b : JM} (h : so w a b) {k : Nat} {j : Int} (hw : w k j = true) (n : Int) (v : Option Int) : so w a (sR b k n j v) := fun k' n' j' q => by
  have : ¬ (k' = k ∧ n' = n ∧ j' = j) := fun z => by rw [z.1, z.2.2, hw] at q; cases q
  rw [rR_I, rR_L, rR_R, if_neg this]
  exact h k' n' j' q
theorem so_L {w : Nat → Int → Bool} {a b : JM} (h : so w a b) {k : Nat} {j : Int} (hw : w k j = true) (n v : Int) : so w a (sL b k n j v) := fun k' n' j' q => by
  have : ¬ (k' = k ∧ n' = n ∧ j' = j) := fun z => by rw [z.1, z.2.2, hw] at q; cases q
  rw [rL_I, rL_L, rL_R, if_neg this]
  exact h k' n' j' q
/-- the message that the reference holds ready -/
def r_b (m : JM) (L : List Nat) : Prop := m.1 12 0 57 = (L.length : Int) ∧ ∀ j : Nat, j < L.length → m.1 156 0 j = (L.getD j 0 : Int)
theorem p_post {B : Int} {c m : JM} {e : Int} {L : List Nat} {x : Int} (hB : B < 2000000000) (he : e = 0 ∨ e = 1) (H : ∀ e, e = 0 ∨ e = 1 → r_m B c m e) (hx : mg L x) (hb : r_b m L) :
    ∃ c' m', F5_post e x c = some c' ∧ F12_goes e m = some m' ∧ (∀ e, e = 0 ∨ e = 1 → r_m (B + 1) c' m' e) ∧ so w_post c c' ∧ so w_goes m m' ∧ c'.1 5 e 1 = c.1 5 e 1 := by
  obtain ⟨⟨a0, a1, a2, a3, a4, a5, a6, a7⟩, ⟨b0, b1, b2, b3, b4, b5, b6, b7, b8, b9, b10, b11⟩, hM⟩ := H e he
  have hl := mg_len hx
  have he' : 0 ≤ e ∧ e < 2 := by omega
  have e1 : w32 (c.1 5 e 0 - c.1 5 e 1) = c.1 5 e 0 - c.1 5 e 1 := w32_of (by omega) (by omega)
  unfold F5_post F12_goes
  rw [a0, a1, e1, g_t he', g_t he']
  by_cases hc : 200 ≤ c.1 5 e 0 - c.1 5 e 1
  · rw [if_pos hc, if_neg (by omega)]
    refine ⟨c, m, rfl, rfl, fun e2 h2 => ?_, so_rfl c, so_rfl m, rfl⟩
    obtain ⟨q1, q2, q3⟩ := H e2 h2
    exact ⟨q1, by omega, q3⟩
  · have e3 : j_rem (c.1 5 e 0) 200 = c.1 5 e 0 % 200 := i_rem (by omega) (by omega) (by omega) (by omega)
    have e4 : j_rem (c.1 5 e 0) 256 = c.1 5 e 0 % 256 := i_rem (by omega) (by omega) (by omega) (by omega)
    have e5 : w32 (256 * e) = 256 * e := w32_of (by omega) (by omega)
    have e6 : w32 (256 * e + c.1 5 e 0 % 256) = 256 * e + c.1 5 e 0 % 256 := w32_of (by omega) (by omega)
    rw [if_neg hc, if_pos (by omega), e3, e4, e5, e6, g_t (by omega), g_t he', lt_d, lt_d, lt_d, rL_I]
    obtain ⟨m', r1, r2, r3⟩ := m_goes39 e (256 * e + c.1 5 e 0 % 256) L.length he' (by omega) (by omega) j_fu 0 m (by omega) (by omega) (by have := so_fu; omega) hb.1
    refine ⟨_, m', rfl, r1, fun e2 h2 => ?_, so_I (so_L (so_rfl c) rfl _ _) rfl _ _, fun k n j hk => ?_, ?_⟩
    · have ew : w32 (c.1 5 e 0 + 1) = c.1 5 e 0 + 1 := w32_of (by omega) (by omega)
      obtain ⟨⟨q0, q1, q2, q3, q4, q5, q6, q7⟩, ⟨p0, p1, p2, p3, p4, p5, p6, p7, p8, p9, p10, p11⟩, qM⟩ := H e2 h2
      unfold r_m
      simp only [r3, rI_I, rI_L, rL_L, rL_I, ew, a0]
      refine ⟨?_, ?_, ?_⟩
      · simp [q0, q1, q2, q3, q4, q5, q6, q7]
      · simp
        grind
      · intro i i1 i2
        by_cases ee : e2 = e
        · by_cases ei : i = c.1 5 e 0
          · refine ⟨L, ?_, ?_, ?_⟩
            · simp [ee, ei]; exact hx
            · simp [ee, ei]
            · intro j hj
              simp [ee, ei]
              rw [if_pos (by omega), show 16 * (256 * e + c.1 5 e 0 % 256) + (j : Int) - 16 * (256 * e + c.1 5 e 0 % 256) = j by omega, hb.2 j hj]
              simp [hj]
          · subst ee
            simp at i1 i2
            obtain ⟨L', l1, l2, l3⟩ := qM i i1 (by omega)
            have n1 : ¬ i % 200 = c.1 5 e2 0 % 200 := by omega
            have n2 : ¬ i % 256 = c.1 5 e2 0 % 256 := by omega
            have hl' := mg_len l1
            refine ⟨L', ?_, ?_, ?_⟩
            · simp [n1]; exact l1
            · simp [n2]; exact l2
            · intro j hj
              simp
              rw [if_neg (by omega)]
              simpa using l3 j hj
        · simp [ee] at i1 i2
          obtain ⟨L', l1, l2, l3⟩ := qM i i1 (by omega)
          have hl' := mg_len l1
          refine ⟨L', ?_, ?_, ?_⟩
          · simp [ee]; exact l1
          · simp
            rw [if_neg (by omega)]
            exact l2
          · intro j hj
            simp
            rw [if_neg (by omega)]
            simpa using l3 j hj
    · have n1 : ¬ k = 158 := by intro z; rw [z] at hk; simp [w_goes] at hk
      have n2 : ¬ k = 159 := by intro z; rw [z] at hk; simp [w_goes] at hk
      have n3 : ¬ k = 160 := by intro z; rw [z] at hk; simp [w_goes] at hk
      refine ⟨?_, by rw [r2], by rw [r2]⟩
      rw [r3]; simp [n1, n2, n3]
    · simp only [rI_I, rL_I]; simp
