/-! ===== units are sent ===== -/
theorem fl_cg2 {N : Int} {c m c' m' : JM} {u : Int} {on : Nat} (hc : ∀ j, c'.1 9 u j = c.1 9 u j ∧ c'.2.1 9 u j = c.2.1 9 u j) (h3 : ∀ j : Nat, j < 320 → m'.1 173 0 ((320 * on + j : Nat) : Int) = m.1 173 0 ((320 * on + j : Nat) : Int)) (h4 : m'.1 174 0 (on : Int) = m.1 174 0 (on : Int)) (h : fl N c m u on) : fl N c' m' u on := by
  rcases h with ⟨q1, q2⟩ | ⟨U, ⟨u1, u2, u3, u4⟩, q2, q3, q4⟩
  · exact Or.inl ⟨by rw [(hc 5).1]; exact q1, by rw [h4]; exact q2⟩
  · refine Or.inr ⟨U, ⟨fun j hj => by rw [h3 j (by omega)]; exact u1 j hj, u2, u3, u4⟩, q2, by rw [h4]; exact q3, ?_⟩
    rw [(hc 5).1, (hc 0).1, (hc 1).1, (hc 2).1, (hc 3).1, (hc 4).2]
    exact q4
theorem kp_cg {c m c' m' : JM} {q : Int} (hc : ∀ j, c'.1 9 q j = c.1 9 q j ∧ c'.2.1 9 q j = c.2.1 9 q j) (h1 : ∀ j : Nat, j < 320 → m'.1 171 0 (320 * q + j) = m.1 171 0 (320 * q + j)) (h2 : m'.1 172 0 q = m.1 172 0 q) (h : kp c m q) : kp c' m' q := by
  obtain ⟨a, b, d, g, L, k0, k1, k2, k3, k4, k5, k6, k7⟩ := h
  have hl := enc_len a b d g L (mo_len k4)
  exact ⟨a, b, d, g, L, by rw [(hc 0).1]; exact k0, by rw [(hc 1).1]; exact k1, by rw [(hc 2).1]; exact k2, by rw [(hc 3).1]; exact k3, by rw [(hc 4).2]; exact k4, k5, by rw [h2]; exact k6, fun j hj => by rw [h1 j (by omega)]; exact k7 j hj⟩
def r_wn (N n : Int) (c m : JM) : Prop := ∀ e s, e = 0 ∨ e = 1 → n - 2 ≤ s → s < n → (s < 0 ∧ c.1 9 (128 + 2 * e + s % 2) 5 = 2) ∨ (0 ≤ s ∧ fl N c m (128 + 2 * e + s % 2) (4 * e + s % 4).toNat)
def r_kn (n : Int) (c m : JM) : Prop := ∀ e s, e = 0 ∨ e = 1 → 0 ≤ s → n - 64 ≤ s → s < n → kp c m (64 * e + s % 64)
theorem n_w1 {e e' s n : Int} (he : e = 0 ∨ e = 1) (he' : e' = 0 ∨ e' = 1) (h : (n - 1 ≤ s ∧ s < n) ∨ (s = n ∧ e ≠ e')) : 128 + 2 * e + s % 2 ≠ 64 * e' + n % 64 ∧ 128 + 2 * e + s % 2 ≠ 128 + 2 * e' + n % 2 ∧ 4 * e + s % 4 ≠ 4 * e' + n % 4 := by omega
theorem n_w2 {e e' s n : Int} (he : e = 0 ∨ e = 1) (he' : e' = 0 ∨ e' = 1) (h : (n - 63 ≤ s ∧ s < n) ∨ (s = n ∧ e ≠ e')) : 64 * e + s % 64 ≠ 64 * e' + n % 64 ∧ 64 * e + s % 64 ≠ 128 + 2 * e' + n % 2 := by omega
theorem n_w3 {a b : Int} {on j : Nat} (ho : (on : Int) = a) (h : a ≠ b) (hj : j < 320) : ((320 * on + j : Nat) : Int) < 320 * b ∨ 320 * b + 320 ≤ ((320 * on + j : Nat) : Int) := by omega
theorem n_w4 {a b : Int} {j : Nat} (h : a ≠ b) (hj : j < 320) : 320 * a + (j : Int) < 320 * b ∨ 320 * b + 320 ≤ 320 * a + (j : Int) := by omega
theorem n_w5 {e s : Int} (he : e = 0 ∨ e = 1) : (((4 * e + s % 4).toNat : Nat) : Int) = 4 * e + s % 4 := by omega
section SS
variable {f : Int → Int} {N z1 z2 X : Int} {sec : Option Int} {Y zd : Int} {c m c' m' : JM} {B B' : Int} {H : HT}
/-- what one exchange's sending leaves -/
theorem w_keep {e n : Int} (he : e = 0 ∨ e = 1) (k1 : ∀ q j, q ≠ 64 * e + n % 64 → q ≠ 128 + 2 * e + n % 2 → c'.1 9 q j = c.1 9 q j ∧ c'.2.1 9 q j = c.2.1 9 q j) (k2 : ∀ j, j < 320 * (64 * e + n % 64) ∨ 320 * (64 * e + n % 64) + 320 ≤ j → m'.1 171 0 j = m.1 171 0 j) (k3 : ∀ j, j ≠ 64 * e + n % 64 → m'.1 172 0 j = m.1 172 0 j) (k4 : ∀ j, j < 320 * (4 * e + n % 4) ∨ 320 * (4 * e + n % 4) + 320 ≤ j → m'.1 173 0 j = m.1 173 0 j) (k5 : ∀ j, j ≠ 4 * e + n % 4 → m'.1 174 0 j = m.1 174 0 j) :
    (∀ e' s, e' = 0 ∨ e' = 1 → (n - 1 ≤ s ∧ s < n) ∨ (s = n ∧ e' ≠ e) → ((s < 0 ∧ c.1 9 (128 + 2 * e' + s % 2) 5 = 2) ∨ (0 ≤ s ∧ fl N c m (128 + 2 * e' + s % 2) (4 * e' + s % 4).toNat)) → ((s < 0 ∧ c'.1 9 (128 + 2 * e' + s % 2) 5 = 2) ∨ (0 ≤ s ∧ fl N c' m' (128 + 2 * e' + s % 2) (4 * e' + s % 4).toNat))) ∧
    (∀ e' s, e' = 0 ∨ e' = 1 → (n - 63 ≤ s ∧ s < n) ∨ (s = n ∧ e' ≠ e) → kp c m (64 * e' + s % 64) → kp c' m' (64 * e' + s % 64)) := by
  refine ⟨fun e' s he' hs h => ?_, fun e' s he' hs h => ?_⟩
  · obtain ⟨a1, a2, a3⟩ := n_w1 he' he hs
    have cc := fun j => k1 (128 + 2 * e' + s % 2) j a1 a2
    rcases h with ⟨q1, q2⟩ | ⟨q1, q2⟩
    · exact Or.inl ⟨q1, by rw [(cc 5).1]; exact q2⟩
    · have h5 := n_w5 (s := s) he'
      exact Or.inr ⟨q1, fl_cg2 cc (fun j hj => k4 _ (n_w3 h5 a3 hj)) (k5 _ (by rw [h5]; exact a3)) q2⟩
  · obtain ⟨a1, a2⟩ := n_w2 he' he hs
    exact kp_cg (fun j => k1 _ j a1 a2) (fun j hj => k2 _ (n_w4 a1 hj)) (k3 _ a1) h
theorem p_sends (hf : f_ok f) (hB : B < 1000000000) {n : Int} (hnw : c.1 11 0 10 = n) (R : relN f N B H c m) (T : r_t (2 * n) c m) (W : r_wn N n c m) (K : r_kn n c m) :
    ∃ c' m1 m', F11_sendUnits c = some c' ∧ F12_sends 0 m = some m1 ∧ F12_sends 1 m1 = some m' ∧ relN f N B H c' m' ∧ r_t (2 * (n + 1)) c' m' ∧ r_wn N (n + 1) c' m' ∧ r_kn (n + 1) c' m' ∧ so w_o c c' ∧ so w_om m m' := by
  have n0 : 0 ≤ n := by rw [← hnw]; exact R.1.2.2.2.2.2.2.2.2.1
  obtain ⟨c1, m1, a1, a2, a3, a4, a5, a6, a7, a8, a9, a10, a11, a12, a13⟩ := p_send (e := 0) hf hB (Or.inl rfl) hnw R (by rw [Int.add_zero]; exact T)
  have hnw1 : c1.1 11 0 10 = n := by rw [(a7 11 0 10 rfl).1]; exact hnw
  obtain ⟨c2, m2, b1, b2, b3, b4, b5, b6, b7, b8, b9, b10, b11, b12, b13⟩ := p_send (e := 1) hf hB (Or.inr rfl) hnw1 a3 (by rw [show 2 * n + 1 = 2 * n + 0 + 1 by omega]; exact a4)
  have K1 := w_keep (N := N) (Or.inl rfl) a9 a10 a11 a12 a13
  have K2 := w_keep (N := N) (Or.inr rfl) b9 b10 b11 b12 b13
  refine ⟨c2, m1, m2, ?_, a2, b2, b3, by rw [show 2 * (n + 1) = 2 * n + 1 + 1 by omega]; exact b4, fun e s he s0 s1 => ?_, fun e s he s00 s0 s1 => ?_, so_tr a7 b7, so_tr a8 b8⟩
  · show F11_sendUnits_2b (F11_sendUnits_2 99999) 0 c = _
    rw [a1]
    show F11_sendUnits_2b (F11_sendUnits_2 99998) 1 c1 = _
    rw [b1]
    show F11_sendUnits_2b (F11_sendUnits_2 99997) 2 c2 = _
    unfold F11_sendUnits_2b
    rw [if_pos (by decide)]
  · by_cases z : s = n
    · subst z
      rcases he with rfl | rfl
      · exact K2.1 0 s (Or.inl rfl) (Or.inr ⟨rfl, by decide⟩) (Or.inr ⟨n0, a5⟩)
      · exact Or.inr ⟨n0, b5⟩
    · have h1 : n - 1 ≤ s ∧ s < n := by omega
      exact K2.1 e s he (Or.inl h1) (K1.1 e s he (Or.inl h1) (W e s he (by omega) h1.2))
  · by_cases z : s = n
    · subst z
      rcases he with rfl | rfl
      · exact K2.2 0 s (Or.inl rfl) (Or.inr ⟨rfl, by decide⟩) a6
      · exact b6
    · have h1 : n - 63 ≤ s ∧ s < n := by omega
      exact K2.2 e s he (Or.inl h1) (K1.2 e s he (Or.inl h1) (K e s he s00 (by omega) h1.2))
end SS
