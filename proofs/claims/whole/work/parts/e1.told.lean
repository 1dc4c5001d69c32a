/-! ===== reading: records, what is told, bits ===== -/
section RO1
variable {f : Int → Int} {N : Int} {c m c' m' : JM} {B : Int}
theorem p_idle (hN : 1 ≤ N ∧ N ≤ 16) (c0 : c.1 11 0 0 = N) (m0 : m.1 12 0 0 = N) (g0 : c.1 1020 0 1 = N) (g1 : c.1 1020 1 1 = N) (ht : ∀ t, 0 ≤ t → t < 32 → m.1 154 0 t = c.1 8 t 2) : ∀ (d fu fu2 : Nat) (i t : Int), 0 ≤ i → i + d = N → d < fu → d < fu2 → 0 ≤ t → t ≤ i →
    ∃ v, F11_idleAtBothEnds_4 fu t i c = some (v, c) ∧ F12_told_87 fu2 t i m = some (v, m)
  | _, 0, _, _, _, _, _, q, _, _, _ => by omega
  | _, _, 0, _, _, _, _, _, q, _, _ => by omega
  | 0, fu + 1, fu2 + 1, i, t, i0, e, _, _, t0, t1 => by
    refine ⟨t, ?_, ?_⟩
    · show F11_idleAtBothEnds_4b (F11_idleAtBothEnds_4 fu) t i c = _
      unfold F11_idleAtBothEnds_4b
      rw [if_pos (by omega)]
    · show F12_told_87b (F12_told_87 fu2) t i m = _
      unfold F12_told_87b
      rw [if_pos (by omega)]
  | d + 1, fu + 1, fu2 + 1, i, t, i0, e, a, b, t0, t1 => by
    have w1 : w32 (i + 1) = i + 1 := w32_of (by omega) (by omega)
    have w2 : w32 (t + 1) = t + 1 := w32_of (by omega) (by omega)
    have w3 : w32 (t + 0) = t := by rw [w32_of (by omega) (by omega)]; omega
    have w4 : w32 (16 + i) = 16 + i := w32_of (by omega) (by omega)
    have ih := fun t' a' b' => p_idle hN c0 m0 g0 g1 ht d fu fu2 (i + 1) t' (by omega) (by omega) (by omega) (by omega) a' b'
    have k0 := ht i (by omega) (by omega)
    have k1 := ht (16 + i) (by omega) (by omega)
    have z0 : (16 : Int) * 0 + i = i := by omega
    have z1 : (16 : Int) * 1 + i = 16 + i := by omega
    show ∃ v, F11_idleAtBothEnds_4b (F11_idleAtBothEnds_4 fu) t i c = some (v, c) ∧ F12_told_87b (F12_told_87 fu2) t i m = some (v, m)
    unfold F11_idleAtBothEnds_4b F11_idleAtBothEnds_49 F12_told_87b F12_told_121 F12_told_122
    simp only [lt_d]
    rw [c0, m0, g0, g1, if_neg (show ¬ N ≤ i by omega), if_neg (show ¬ N ≤ i by omega), w1, w2, w3, w4, g_t (show (0 : Int) ≤ 0 ∧ (0 : Int) < 2 by omega), g_t (show 0 ≤ i ∧ i < N by omega), g_t (show 0 ≤ i ∧ i < 32 by omega), z0, z1, k0]
    by_cases y : c.1 8 i 2 = 0
    · rw [if_pos y, if_pos y, g_t (show (0 : Int) ≤ 1 ∧ (1 : Int) < 2 by omega), g_t (show 0 ≤ i ∧ i < N by omega), g_t (show 0 ≤ 16 + i ∧ 16 + i < 32 by omega), k1]
      by_cases y2 : c.1 8 (16 + i) 2 = 0
      · rw [if_pos y2, if_pos y2]; exact ih (t + 1) (by omega) (by omega)
      · rw [if_neg y2, if_neg y2]; exact ih t (by omega) (by omega)
    · rw [if_neg y, if_neg y]; exact ih t (by omega) (by omega)
theorem m_t48 : ∀ (d : Nat) (fu : Nat) (i : Nat), i + d = 80 → d < fu → F12_told_48 fu (cn (fun s => decide (m.1 133 0 s ≠ -1)) i) (i : Int) m = some (rv m, m)
  | _, 0, _, _, h => by omega
  | d, fu + 1, i, hd, h => by
    show F12_told_48b (F12_told_48 fu) _ (i : Int) m = _
    unfold F12_told_48b
    have hb := cn_b (fun s => decide (m.1 133 0 s ≠ -1)) i
    by_cases c1 : (80 : Int) ≤ (i : Int)
    · have : i = 80 := by omega
      subst this
      rw [if_pos (by simp)]; rfl
    · have w2 : w32 ((i : Int) + 1) = ((i + 1 : Nat) : Int) := by rw [w32_of (by omega) (by omega)]; rfl
      have ih := m_t48 (d - 1) fu (i + 1) (by omega) (by omega)
      rw [if_neg c1, g_t (by omega)]
      unfold F12_told_70
      rw [lt_d, lt_d, w2, w32_of (by omega) (by omega), w32_of (by omega) (by omega)]
      have e1 : cn (fun s => decide (m.1 133 0 s ≠ -1)) (i + 1) = cn (fun s => decide (m.1 133 0 s ≠ -1)) i + (if decide (m.1 133 0 (i : Int) ≠ -1) = true then 1 else 0) := rfl
      rw [e1] at ih
      by_cases a1 : m.1 133 0 (i : Int) = -1
      · rw [if_pos a1]; simpa [a1] using ih
      · rw [if_neg a1]; simpa [a1] using ih
theorem a_told (hf : f_ok f) (R : r_x f N B c m) (w : Int) : ∃ v c' m', F11_told w c = some (v, c') ∧ F12_told w m = some (v, m') ∧ r_y f N B c m c' m' := by
  unfold F11_told F12_told F11_idleAtBothEnds
  have K := R.1.1.1
  have A := R.1.1.2.2.2.2.2.2.1
  have G := R.1.1.2.2.2.2.2.2.2.1
  by_cases h0 : w = 0
  · rw [if_pos h0, if_pos h0]; exact ⟨_, c, m, rfl, by rw [K.2.2.2.2.2.2.2.1], r_y0 R⟩
  · rw [if_neg h0, if_neg h0]
    by_cases h1 : w = 1
    · rw [if_pos h1, if_pos h1]; exact ⟨_, c, m, rfl, by rw [A.2.2.2.2.2.2.2.1.1], r_y0 R⟩
    · rw [if_neg h1, if_neg h1]
      by_cases h2 : w = 2
      · rw [if_pos h2, if_pos h2]
        refine ⟨_, c, m, rfl, ?_, r_y0 R⟩
        rw [R.1.1.2.2.2.2.2.1.2.1]
        exact m_t48 80 j_fu 0 (by omega) (by unfold j_fu; omega)
      · rw [if_neg h2, if_neg h2]
        by_cases h3 : w = 3
        · rw [if_pos h3, if_pos h3]; exact ⟨_, c, m, rfl, by rw [G.2.2.1], r_y0 R⟩
        · rw [if_neg h3, if_neg h3]
          by_cases h4 : w = 4
          · rw [if_pos h4, if_pos h4]
            have hN : 1 ≤ N ∧ N ≤ 16 := ⟨K.2.2.1, K.2.2.2.1⟩
            have gh := K.2.2.2.2.2.2.2.2.2.2.1
            obtain ⟨v, y1, y2⟩ := p_idle hN K.1 K.2.1 (gh 0 (Or.inl rfl)).1 (gh 1 (Or.inr rfl)).1 (fun t a b => (R.1.1.2.2.1.2.2.2.2.2.2.2.2.2.2.2.2.2.2.2.2.2.2.2.2.2.2.2.2.2.2.1) t a b (by omega)) N.toNat j_fu j_fu 0 0 (by omega) (by omega) (by unfold j_fu; omega) (by unfold j_fu; omega) (by omega) (by omega)
            exact ⟨v, c, m, by rw [y1]; rfl, y2, r_y0 R⟩
          · rw [if_neg h4, if_neg h4]; exact ⟨_, c, m, rfl, rfl, r_y0 R⟩
theorem w_rec {i w n : Int} (hw : 0 ≤ w ∧ w ≤ 4) (hn : n < 1000000000) (p : 0 ≤ i ∧ i < n) : w32 (w32 (j_rem i 300 * 5) + w) = 5 * (i % 300) + w ∧ w32 (w32 (5 * j_rem i 300) + w) = 5 * (i % 300) + w ∧ 0 ≤ 5 * (i % 300) + w ∧ 5 * (i % 300) + w < 1500 := by
  rw [i_rem p.1 (by omega) (by omega) (by omega)]
  have q : 0 ≤ i % 300 ∧ i % 300 < 300 := by omega
  rw [w32_of (x := i % 300 * 5) (by omega) (by omega), w32_of (x := 5 * (i % 300)) (by omega) (by omega), w32_of (x := i % 300 * 5 + w) (by omega) (by omega), w32_of (x := 5 * (i % 300) + w) (by omega) (by omega)]
  omega
theorem m_rec {i w n : Int} (hw : 0 ≤ w ∧ w ≤ 4) (hn : 0 ≤ n ∧ n < 1000000000) (e : m.1 12 0 90 = n) : (if 300 ≤ n then F12_record_40 i w i (w32 (n - 300)) m else F12_record_40 i w i 0 m) = if 0 ≤ i ∧ i < n ∧ n - 300 ≤ i then some (m.1 191 0 (5 * (i % 300) + w), m) else some (-1, m) := by
  have key : ∀ a, ((a ≤ i ∧ i ≤ n - 1) ↔ (0 ≤ i ∧ i < n ∧ n - 300 ≤ i)) → F12_record_40 i w i a m = if 0 ≤ i ∧ i < n ∧ n - 300 ≤ i then some (m.1 191 0 (5 * (i % 300) + w), m) else some (-1, m) := fun a ha => by
    unfold F12_record_40
    rw [e, w32_of (x := n - 1) (by omega) (by omega), m_in, Option.bind_some]
    dsimp only
    by_cases p : 0 ≤ i ∧ i < n ∧ n - 300 ≤ i
    · obtain ⟨_, v2, v3⟩ := w_rec (i := i) hw hn.2 ⟨p.1, p.2.1⟩
      rw [if_pos (ha.2 p), if_neg (show ¬ (1 : Int) = 0 by decide), if_pos p, v2, g_t v3]
    · rw [if_neg (fun z => p (ha.1 z)), if_pos (show (0 : Int) = 0 from rfl), if_neg p]
  by_cases h : 300 ≤ n
  · rw [if_pos h, w32_of (by omega) (by omega)]; exact key _ (by omega)
  · rw [if_neg h]; exact key _ (by omega)
theorem f_rec {i w n : Int} (hw : 0 ≤ w ∧ w ≤ 4) (hn : 0 ≤ n ∧ n < 1000000000) (e : c.1 3 0 2 = n) : F3_read i w c = if 0 ≤ i ∧ i < n ∧ n - 300 ≤ i then some (c.1 27 0 (5 * (i % 300) + w), c) else some (-1, c) := by
  unfold F3_read F3_read_24
  rw [e, w32_of (x := n - 300) (by omega) (by omega)]
  by_cases p : 0 ≤ i ∧ i < n ∧ n - 300 ≤ i
  · obtain ⟨v1, _, v3⟩ := w_rec (i := i) hw hn.2 ⟨p.1, p.2.1⟩
    rw [if_pos p, if_neg (by omega), if_neg (by omega), if_pos p.2.2, v1, g_t v3]
  · rw [if_neg p]
    by_cases a : i < 0
    · rw [if_pos a]
    · rw [if_neg a]
      by_cases b : n ≤ i
      · rw [if_pos b]
      · rw [if_neg b, if_neg (by omega)]
theorem a_record (hf : f_ok f) (R : r_x f N B c m) (i w : Int) (hB : B < 1000000000) : ∃ v c' m', F11_record i w c = some (v, c') ∧ F12_record i w m = some (v, m') ∧ r_y f N B c m c' m' := by
  unfold F11_record F12_record
  rw [f_within, m_in, Option.bind_some, Option.bind_some]
  dsimp only
  by_cases h1 : 0 ≤ w ∧ w ≤ 4
  · rw [if_pos (c := 0 ≤ w ∧ w ≤ 4) h1, if_neg (show ¬ (1 : Int) = 0 by decide), if_neg (show ¬ (1 : Int) = 0 by decide)]
    obtain ⟨_, G2, G3, G4, G5⟩ := R.1.1.2.2.2.2.2.2.2.1
    have hn : 0 ≤ c.1 3 0 2 ∧ c.1 3 0 2 < 1000000000 := ⟨G4, by omega⟩
    rw [f_rec h1 hn rfl, G3, m_rec h1 hn G3]
    by_cases p : 0 ≤ i ∧ i < c.1 3 0 2 ∧ c.1 3 0 2 - 300 ≤ i
    · rw [if_pos p, if_pos p]; exact ⟨_, c, m, rfl, by rw [G2], r_y0 R⟩
    · rw [if_neg p, if_neg p]; exact ⟨_, c, m, rfl, rfl, r_y0 R⟩
  · rw [if_neg (c := 0 ≤ w ∧ w ≤ 4) h1, if_pos (show (0 : Int) = 0 from rfl), if_pos (show (0 : Int) = 0 from rfl)]
    exact ⟨_, c, m, rfl, rfl, r_y0 R⟩
theorem m_bit {e n k nw : Int} (he : e = 0 ∨ e = 1) (hn : 0 ≤ nw ∧ nw ≤ 10000000) (em : m.1 12 0 2 = nw) (l1 : ∀ q, 0 ≤ n → n < nw → nw - 64 ≤ n → q = 64 * e + n % 64 → 0 ≤ m.1 172 0 q ∧ m.1 172 0 q ≤ 256) : (if 64 ≤ nw then F12_bit_36 e n k n (w32 (nw - 64)) m else F12_bit_36 e n k n 0 m) = if 0 ≤ n ∧ n < nw ∧ nw - 64 ≤ n then (if 0 ≤ k ∧ k < m.1 172 0 (64 * e + n % 64) then some (m.1 171 0 (320 * (64 * e + n % 64) + k), m) else some (-1, m)) else some (-1, m) := by
  have key : ∀ a, ((a ≤ n ∧ n ≤ nw - 1) ↔ (0 ≤ n ∧ n < nw ∧ nw - 64 ≤ n)) → F12_bit_36 e n k n a m = if 0 ≤ n ∧ n < nw ∧ nw - 64 ≤ n then (if 0 ≤ k ∧ k < m.1 172 0 (64 * e + n % 64) then some (m.1 171 0 (320 * (64 * e + n % 64) + k), m) else some (-1, m)) else some (-1, m) := fun a ha => by
    unfold F12_bit_36
    rw [em, w32_of (x := nw - 1) (by omega) (by omega), m_in, Option.bind_some]
    dsimp only
    by_cases p : 0 ≤ n ∧ n < nw ∧ nw - 64 ≤ n
    · have q : 0 ≤ n % 64 ∧ n % 64 < 64 := by omega
      have er : j_rem n 64 = n % 64 := i_rem p.1 (by omega) (by omega) (by omega)
      have w1 : w32 (w32 (64 * e) + n % 64) = 64 * e + n % 64 := by rw [w32_of (x := 64 * e) (by omega) (by omega), w32_of (by omega) (by omega)]
      have hl := l1 _ p.1 p.2.1 p.2.2 rfl
      rw [if_pos (ha.2 p), if_neg (show ¬ (1 : Int) = 0 by decide), if_pos p, er, w1, lt_d, g_t (by omega), w32_of (x := m.1 172 0 (64 * e + n % 64) - 1) (by omega) (by omega), m_in, Option.bind_some]
      dsimp only
      by_cases z : 0 ≤ k ∧ k < m.1 172 0 (64 * e + n % 64)
      · have w2 : w32 (w32 (320 * (64 * e + n % 64)) + k) = 320 * (64 * e + n % 64) + k := by rw [w32_of (x := 320 * (64 * e + n % 64)) (by omega) (by omega), w32_of (by omega) (by omega)]
        rw [if_pos z, if_pos (show 0 ≤ k ∧ k ≤ m.1 172 0 (64 * e + n % 64) - 1 by omega), if_neg (show ¬ (1 : Int) = 0 by decide), w2, g_t (by omega)]
      · rw [if_neg z, if_neg (show ¬ (0 ≤ k ∧ k ≤ m.1 172 0 (64 * e + n % 64) - 1) by omega), if_pos (show (0 : Int) = 0 from rfl)]
    · rw [if_neg (fun z => p (ha.1 z)), if_pos (show (0 : Int) = 0 from rfl), if_neg p]
  by_cases h : 64 ≤ nw
  · rw [if_pos h, w32_of (by omega) (by omega)]; exact key _ (by omega)
  · rw [if_neg h]; exact key _ (by omega)
theorem a_bit (hf : f_ok f) (R : r_x f N B c m) (e n k : Int) : ∃ v c' m', F11_bit e n k c = some (v, c') ∧ F12_bit e n k m = some (v, m') ∧ r_y f N B c m c' m' := by
  unfold F11_bit F11_bit_37 F12_bit
  rw [f_exch, m_in, Option.bind_some, Option.bind_some]
  dsimp only
  by_cases h1 : 0 ≤ e ∧ e ≤ 1
  · rw [if_pos (c := 0 ≤ e ∧ e ≤ 1) h1, if_neg (show ¬ (1 : Int) = 0 by decide), if_neg (show ¬ (1 : Int) = 0 by decide)]
    have K := R.1.1.1
    have he : e = 0 ∨ e = 1 := by omega
    have em : m.1 12 0 2 = c.1 11 0 10 := K.2.2.2.2.2.2.2.1
    have hn : 0 ≤ c.1 11 0 10 ∧ c.1 11 0 10 ≤ 10000000 := ⟨K.2.2.2.2.2.2.2.2.1, K.2.2.2.2.2.2.2.2.2.1⟩
    have U := R.1.2.2.2.2.2
    have l1 : ∀ q, 0 ≤ n → n < c.1 11 0 10 → c.1 11 0 10 - 64 ≤ n → q = 64 * e + n % 64 → 0 ≤ m.1 172 0 q ∧ m.1 172 0 q ≤ 256 := fun q a b d z => by
      obtain ⟨k1, k2, k3, k4, L, _, _, _, _, h4, _, h5, _⟩ := U e n he a d b
      have := (enc_len k1 k2 k3 k4 L (mo_len h4)).2
      rw [z, h5]; omega
    rw [em, m_bit he hn em l1, w32_of (x := c.1 11 0 10 - 64) (by omega) (by omega)]
    by_cases p : 0 ≤ n ∧ n < c.1 11 0 10 ∧ c.1 11 0 10 - 64 ≤ n
    · rw [if_pos p, if_neg (show ¬ n < 0 by omega), if_neg (show ¬ c.1 11 0 10 ≤ n by omega), if_neg (show ¬ n < c.1 11 0 10 - 64 by omega)]
      by_cases k0 : 0 ≤ k
      · have er : j_rem n 64 = n % 64 := i_rem p.1 (by omega) (by omega) (by omega)
        obtain ⟨a, b, d, g, L, h0, h1', h2, h3, h4, hr, h5, h6⟩ := U e n he p.1 p.2.2 p.2.1
        have hl := enc_len a b d g L (mo_len h4)
        obtain ⟨c1, y1, y2, y3, y4⟩ := f_wunit hr.1 hr.2.1 hr.2.2.1 hr.2.2.2 h0 h1' h2 h3 h4
        have RY : r_y f N B c m c1 m := x_bi hf R (so_mono (fun k j h => by simp [w_bi] at h; simp [w_wr]; omega) y4) (so_rfl m)
        rw [if_pos k0, er, g_t (by omega), g_t (by omega), y1, Option.bind_some, y3, h5]
        by_cases z : k < ((enc (ful a b d g L)).length : Int)
        · obtain ⟨kn, rfl⟩ := Int.eq_ofNat_of_zero_le k0
          rw [if_neg (by omega), g_t (by omega), if_pos ⟨k0, z⟩]
          refine ⟨_, c1, m, rfl, ?_, RY⟩
          rw [h6 kn (by omega), y2 kn (by omega)]
        · rw [if_pos (by omega), if_neg (fun y => z y.2)]
          exact ⟨_, c1, m, rfl, rfl, RY⟩
      · rw [if_neg k0, if_neg (fun y => k0 y.1)]
        exact ⟨_, c, m, rfl, rfl, r_y0 R⟩
    · rw [if_neg p]
      by_cases a1 : n < 0
      · rw [if_pos a1]; exact ⟨_, c, m, rfl, rfl, r_y0 R⟩
      · rw [if_neg a1]
        by_cases a2 : c.1 11 0 10 ≤ n
        · rw [if_pos a2]; exact ⟨_, c, m, rfl, rfl, r_y0 R⟩
        · rw [if_neg a2, if_pos (by omega)]; exact ⟨_, c, m, rfl, rfl, r_y0 R⟩
  · rw [if_neg (c := 0 ≤ e ∧ e ≤ 1) h1, if_pos (show (0 : Int) = 0 from rfl), if_pos (show (0 : Int) = 0 from rfl)]
    exact ⟨_, c, m, rfl, rfl, r_y0 R⟩
end RO1
