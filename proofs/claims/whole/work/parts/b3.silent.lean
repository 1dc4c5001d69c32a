/-! ===== speech: the silence before ===== -/
theorem w32_1 {x : Int} (h : 0 ≤ x) (h2 : x < 1000) : w32 (x + 1) = x + 1 := w32_of (by omega) (by omega)
theorem f_s2 : ∀ (d : Nat) (fu : Nat) (l : Int) (c : JM), 0 ≤ l → l + d = 16 → d < fu → ∃ c', F11_carrySpeech_2 fu l c = F11_carrySpeech_26 j_fu 0 c' ∧ c'.2 = c.2 ∧ ∀ k n j, c'.1 k n j = if k = 4 ∧ j = 19 ∧ l ≤ n ∧ n < 16 then 0 else c.1 k n j
  | _, 0, _, _, _, _, h => by omega
  | 0, fu + 1, l, c, h0, h1, h2 => by
    refine ⟨c, ?_, rfl, fun k n j => (if_neg (by omega)).symm⟩
    show F11_carrySpeech_2b (F11_carrySpeech_2 fu) l c = _
    unfold F11_carrySpeech_2b
    rw [if_pos (by omega)]
  | d + 1, fu + 1, l, c, h0, h1, h2 => by
    obtain ⟨c', e1, e2, e3⟩ := f_s2 d fu (l + 1) (sI c 4 l 19 0) (by omega) (by omega) (by omega)
    refine ⟨c', ?_, e2, fun k n j => ?_⟩
    · show F11_carrySpeech_2b (F11_carrySpeech_2 fu) l c = _
      unfold F11_carrySpeech_2b
      rw [if_neg (by omega), g_t (by omega), lt_d, w32_1 h0 (by omega)]
      exact e1
    · rw [e3, rI_I]
      grind
theorem f_h49 (e : Int) : ∀ (d : Nat) (fu : Nat) (l : Int) (c : JM), 0 ≤ l → l + d = 2 → d < fu → ∃ c', F1_hush_49 fu e l c = some c' ∧ c'.2 = c.2 ∧ ∀ k n j, c'.1 k n j = if k = 24 ∧ n = e ∧ l ≤ j ∧ j < 2 then 0 else c.1 k n j
  | _, 0, _, _, _, _, h => by omega
  | 0, fu + 1, l, c, h0, h1, h2 => by
    refine ⟨c, ?_, rfl, fun k n j => (if_neg (by omega)).symm⟩
    show F1_hush_49b (F1_hush_49 fu) e l c = _
    unfold F1_hush_49b
    rw [if_pos (by omega)]
  | d + 1, fu + 1, l, c, h0, h1, h2 => by
    obtain ⟨c', e1, e2, e3⟩ := f_h49 e d fu (l + 1) (sI c 24 e l 0) (by omega) (by omega) (by omega)
    refine ⟨c', ?_, e2, fun k n j => ?_⟩
    · show F1_hush_49b (F1_hush_49 fu) e l c = _
      unfold F1_hush_49b
      rw [if_neg (by omega), g_t (by omega), lt_d, w32_1 h0 (by omega)]
      exact e1
    · rw [e3, rI_I]
      grind
theorem f_h2 (e N : Int) (hN : N ≤ 16) : ∀ (d : Nat) (fu : Nat) (l : Int) (c : JM), c.1 1020 e 1 = N → 0 ≤ l → l + d = N → d < fu → ∃ c', F1_hush_2 fu e l c = F1_hush_49 j_fu e 0 c' ∧ c'.2 = c.2 ∧ ∀ k n j, c'.1 k n j = if k = 8 ∧ j = 5 ∧ 16 * e + l ≤ n ∧ n < 16 * e + N then c.1 8 n 4 else if k = 8 ∧ j = 4 ∧ 16 * e + l ≤ n ∧ n < 16 * e + N then 213 else c.1 k n j
  | _, 0, _, _, _, _, _, h => by omega
  | 0, fu + 1, l, c, hc, h0, h1, h2 => by
    refine ⟨c, ?_, rfl, fun k n j => ?_⟩
    · show F1_hush_2b (F1_hush_2 fu) e l c = _
      unfold F1_hush_2b
      rw [hc, g_t (by omega), if_pos (by omega)]
    · rw [if_neg (by omega), if_neg (by omega)]
  | d + 1, fu + 1, l, c, hc, h0, h1, h2 => by
    have hc' : (sI (sI c 8 (16 * e + l) 5 (c.1 8 (16 * e + l) 4)) 8 (16 * e + l) 4 213).1 1020 e 1 = N := by
      rw [rI_I, rI_I, if_neg (fun z => absurd z.1 (by decide)), if_neg (fun z => absurd z.1 (by decide))]; exact hc
    have hc2 : (sI c 8 (16 * e + l) 5 (c.1 8 (16 * e + l) 4)).1 1020 e 1 = N := by
      rw [rI_I, if_neg (fun z => absurd z.1 (by decide))]; exact hc
    obtain ⟨c', e1, e2, e3⟩ := f_h2 e N hN d fu (l + 1) _ hc' (by omega) (by omega) (by omega)
    refine ⟨c', ?_, e2, fun k n j => ?_⟩
    · show F1_hush_2b (F1_hush_2 fu) e l c = _
      unfold F1_hush_2b
      rw [hc, g_t (by omega), if_neg (by omega), g_t (by omega), g_t (by omega), lt_d, hc2, g_t (by omega), lt_d, w32_1 h0 (by omega)]
      exact e1
    · rw [e3, rI_I, rI_I, rI_I, rI_I]
      grind
theorem f_hush (e N : Int) (c : JM) (hN : 1 ≤ N ∧ N ≤ 16) (hc : c.1 1020 e 1 = N) : ∃ c', F1_hush e c = some c' ∧ c'.2 = c.2 ∧ ∀ k n j, c'.1 k n j = if k = 8 ∧ j = 5 ∧ 16 * e ≤ n ∧ n < 16 * e + N then c.1 8 n 4 else if k = 8 ∧ j = 4 ∧ 16 * e ≤ n ∧ n < 16 * e + N then 213 else if k = 24 ∧ n = e ∧ 0 ≤ j ∧ j < 2 then 0 else c.1 k n j := by
  have h100 := so_fu
  obtain ⟨c1, e1, e2, e3⟩ := f_h2 e N hN.2 N.toNat j_fu 0 c hc (by omega) (by omega) (by omega)
  obtain ⟨c2, g1, g2, g3⟩ := f_h49 e 2 j_fu 0 c1 (by omega) (by omega) (by omega)
  refine ⟨c2, ?_, g2.trans e2, fun k n j => ?_⟩
  · unfold F1_hush
    rw [e1, g1]
  · rw [g3, e3]
    grind
def hs (N : Int) (c : JM) (k : Nat) (n j : Int) : Int := if k = 4 ∧ j = 19 ∧ 0 ≤ n ∧ n < 16 then 0 else if k = 8 ∧ j = 5 ∧ ((0 ≤ n ∧ n < N) ∨ (16 ≤ n ∧ n < 16 + N)) then c.1 8 n 4 else if k = 8 ∧ j = 4 ∧ ((0 ≤ n ∧ n < N) ∨ (16 ≤ n ∧ n < 16 + N)) then 213 else if k = 24 ∧ (n = 0 ∨ n = 1) ∧ (j = 0 ∨ j = 1) then 0 else c.1 k n j
theorem f_silent {N : Int} {c : JM} (hN : 1 ≤ N ∧ N ≤ 16) (hc : ∀ e, e = 0 ∨ e = 1 → c.1 1020 e 1 = N) : ∃ c', F11_carrySpeech c = F11_carrySpeech_48 j_fu 0 c' ∧ c'.2 = c.2 ∧ ∀ k n j, c'.1 k n j = hs N c k n j := by
  have h100 := so_fu
  obtain ⟨c1, e1, e2, e3⟩ := f_s2 16 j_fu 0 c (by omega) (by omega) (by omega)
  have hc1 : c1.1 1020 0 1 = N := by rw [e3, if_neg (fun z => absurd z.1 (by decide))]; exact hc 0 (Or.inl rfl)
  obtain ⟨c2, g1, g2, g3⟩ := f_hush 0 N c1 hN hc1
  have hc2 : c2.1 1020 1 1 = N := by rw [g3, if_neg (fun z => absurd z.1 (by decide)), if_neg (fun z => absurd z.1 (by decide)), if_neg (fun z => absurd z.1 (by decide)), e3, if_neg (fun z => absurd z.1 (by decide))]; exact hc 1 (Or.inr rfl)
  obtain ⟨c3, k1, k2, k3⟩ := f_hush 1 N c2 hN hc2
  refine ⟨c3, ?_, k2.trans (g2.trans e2), fun k n j => ?_⟩
  · have st : ∀ n, F11_carrySpeech_26 (n + 1 + 1 + 1) 0 c1 = F11_carrySpeech_48 j_fu 0 c3 := fun n => by
      show F11_carrySpeech_26b (F11_carrySpeech_26 (n + 1 + 1)) 0 c1 = _
      unfold F11_carrySpeech_26b
      rw [if_neg (by decide), g_t (by decide), g1, Option.bind_some, w32_1 (by decide) (by decide)]
      show F11_carrySpeech_26b (F11_carrySpeech_26 (n + 1)) 1 c2 = _
      unfold F11_carrySpeech_26b
      rw [if_neg (by decide), g_t (by decide), k1, Option.bind_some, w32_1 (by decide) (by decide)]
      show F11_carrySpeech_26b (F11_carrySpeech_26 n) 2 c3 = _
      unfold F11_carrySpeech_26b
      rw [if_pos (by decide)]
    have st3 := st (j_fu - 3)
    rw [show j_fu - 3 + 1 + 1 + 1 = j_fu by omega] at st3
    unfold F11_carrySpeech
    rw [e1, st3]
  · unfold hs
    rw [k3, g3, g3, e3, e3]
    clear k1 k2 k3 g1 g2 g3 e1 e2 e3 hc1 hc2 hc h100
    by_cases q4 : k = 4
    · subst q4; grind (splits := 30)
    · by_cases q8 : k = 8
      · subst q8; grind (splits := 30)
      · grind (splits := 30)
theorem m_s2 : ∀ (d : Nat) (fu : Nat) (l : Int) (m : JM), 0 ≤ l → l + d = 16 → d < fu → ∃ m', F12_speaks_2 fu l m = F12_speaks_23 j_fu 0 m' ∧ m'.2 = m.2 ∧ ∀ k n j, m'.1 k n j = if k = 131 ∧ n = 0 ∧ l ≤ j ∧ j < 16 then 0 else m.1 k n j
  | _, 0, _, _, _, _, h => by omega
  | 0, fu + 1, l, m, h0, h1, h2 => by
    refine ⟨m, ?_, rfl, fun k n j => (if_neg (by omega)).symm⟩
    show F12_speaks_2b (F12_speaks_2 fu) l m = _
    unfold F12_speaks_2b
    rw [if_pos (by omega)]
  | d + 1, fu + 1, l, m, h0, h1, h2 => by
    obtain ⟨m', e1, e2, e3⟩ := m_s2 d fu (l + 1) (sI m 131 0 l 0) (by omega) (by omega) (by omega)
    refine ⟨m', ?_, e2, fun k n j => ?_⟩
    · show F12_speaks_2b (F12_speaks_2 fu) l m = _
      unfold F12_speaks_2b
      rw [if_neg (by omega), g_t (by omega), lt_d, w32_1 h0 (by omega)]
      exact e1
    · rw [e3, rI_I]
      grind
theorem m_s23 : ∀ (d : Nat) (fu : Nat) (l : Int) (m : JM), 0 ≤ l → l + d = 32 → d < fu → ∃ m', F12_speaks_23 fu l m = F12_speaks_48 j_fu 0 m' ∧ m'.2 = m.2 ∧ ∀ k n j, m'.1 k n j = if k = 185 ∧ n = 0 ∧ l ≤ j ∧ j < 32 then 213 else m.1 k n j
  | _, 0, _, _, _, _, h => by omega
  | 0, fu + 1, l, m, h0, h1, h2 => by
    refine ⟨m, ?_, rfl, fun k n j => (if_neg (by omega)).symm⟩
    show F12_speaks_23b (F12_speaks_23 fu) l m = _
    unfold F12_speaks_23b
    rw [if_pos (by omega)]
  | d + 1, fu + 1, l, m, h0, h1, h2 => by
    obtain ⟨m', e1, e2, e3⟩ := m_s23 d fu (l + 1) (sI m 185 0 l 213) (by omega) (by omega) (by omega)
    refine ⟨m', ?_, e2, fun k n j => ?_⟩
    · show F12_speaks_23b (F12_speaks_23 fu) l m = _
      unfold F12_speaks_23b
      rw [if_neg (by omega), f_codeOf0 (by omega), Option.bind_some, g_t (by omega), lt_d, w32_1 h0 (by omega), s_l00]
      exact e1
    · rw [e3, rI_I]
      grind
theorem m_s153 : ∀ (d : Nat) (fu : Nat) (l : Int) (m : JM), 0 ≤ l → l + d = 32 → d < fu → ∃ m', F12_speaks_153 fu l m = some m' ∧ m'.2 = m.2 ∧ ∀ k n j, m'.1 k n j = if k = 184 ∧ n = 0 ∧ l ≤ j ∧ j < 32 then m.1 185 0 j else m.1 k n j
  | _, 0, _, _, _, _, h => by omega
  | 0, fu + 1, l, m, h0, h1, h2 => by
    refine ⟨m, ?_, rfl, fun k n j => (if_neg (by omega)).symm⟩
    show F12_speaks_153b (F12_speaks_153 fu) l m = _
    unfold F12_speaks_153b
    rw [if_pos (by omega)]
  | d + 1, fu + 1, l, m, h0, h1, h2 => by
    obtain ⟨m', e1, e2, e3⟩ := m_s153 d fu (l + 1) (sI m 184 0 l (m.1 185 0 l)) (by omega) (by omega) (by omega)
    refine ⟨m', ?_, e2, fun k n j => ?_⟩
    · show F12_speaks_153b (F12_speaks_153 fu) l m = _
      unfold F12_speaks_153b
      rw [if_neg (by omega), g_t (by omega), g_t (by omega), lt_d, w32_1 h0 (by omega)]
      exact e1
    · rw [e3, rI_I, rI_I]
      grind
def hsm (m : JM) (k : Nat) (n j : Int) : Int := if k = 131 ∧ n = 0 ∧ 0 ≤ j ∧ j < 16 then 0 else if k = 185 ∧ n = 0 ∧ 0 ≤ j ∧ j < 32 then 213 else m.1 k n j
theorem m_silent (m : JM) : ∃ m', F12_speaks m = F12_speaks_48 j_fu 0 m' ∧ m'.2 = m.2 ∧ ∀ k n j, m'.1 k n j = hsm m k n j := by
  have h100 := so_fu
  obtain ⟨m1, e1, e2, e3⟩ := m_s2 16 j_fu 0 m (by omega) (by omega) (by omega)
  obtain ⟨m2, g1, g2, g3⟩ := m_s23 32 j_fu 0 m1 (by omega) (by omega) (by omega)
  refine ⟨m2, ?_, g2.trans e2, fun k n j => ?_⟩
  · unfold F12_speaks
    rw [e1, g1]
  · unfold hsm
    rw [g3, e3]
    grind
