/-! ===== the plan ===== -/
theorem tk_s (K P : List Nat) (i : Nat) (h1 : i < K.length) (h2 : i < P.length) : K.take (i + 1) = P.take (i + 1) ↔ (K.take i = P.take i ∧ K.getD i 0 = P.getD i 0) := by
  have e1 : K.take (i + 1) = K.take i ++ [K.getD i 0] := by
    rw [List.take_succ_eq_append_getElem h1, List.getD_eq_getElem?_getD, List.getElem?_eq_getElem h1]; rfl
  have e2 : P.take (i + 1) = P.take i ++ [P.getD i 0] := by
    rw [List.take_succ_eq_append_getElem h2, List.getD_eq_getElem?_getD, List.getElem?_eq_getElem h2]; rfl
  rw [e1, e2]
  constructor
  · intro h
    have := List.append_inj' h rfl
    exact ⟨this.1, by simpa using this.2⟩
  · rintro ⟨a, b⟩
    rw [a, b]
theorem ja_1 : ∀ x : Int, x = 0 ∨ x = 1 → j_and x 1 = x := fun x q => by rcases q with rfl | rfl <;> decide
theorem ja_0 : ∀ x : Int, x = 0 ∨ x = 1 → j_and x 0 = 0 := fun x q => by rcases q with rfl | rfl <;> decide
theorem m_an47 (k21 : Int → Int → Int → Int → Int → JM → Option (Int × JM)) {m : JM} {s e l4 l5 p : Int} {K P : List Nat} (hs : 0 ≤ s ∧ s < 80) (hp : 0 ≤ p ∧ p < 48) (hK : k_ok K) (hP : k_ok P) (m107 : m.1 107 0 p = (P.length : Int)) (m106 : ∀ j : Nat, j < P.length → m.1 106 0 (12 * p + j) = (P.getD j 0 : Int)) (m139 : ∀ j : Nat, j < K.length → m.1 139 0 (12 * s + j) = (K.getD j 0 : Int)) :
    ∀ (fu : Nat) (i : Nat), i ≤ K.length → i ≤ P.length → (min K.length P.length - i) < fu → F12_analysis_47 k21 fu s e (K.length : Int) l4 l5 p (if K.take i = P.take i then 1 else 0) (i : Int) m = F12_analysis_109 k21 s e (K.length : Int) l4 l5 p (if K.take (min K.length P.length) = P.take (min K.length P.length) then 1 else 0) m
  | 0, i, _, _, h => by omega
  | fu + 1, i, h1, h2, h => by
    have hk1 := hK.1
    have hp1 := hP.1
    show F12_analysis_47b k21 (F12_analysis_47 k21 fu) s e _ l4 l5 p _ _ m = _
    unfold F12_analysis_47b
    by_cases c1 : (K.length : Int) ≤ (i : Int)
    · rw [if_pos c1]
      have : min K.length P.length = i := by omega
      rw [this]
    · rw [if_neg c1, g_t hp, m107]
      by_cases c2 : (P.length : Int) ≤ (i : Int)
      · rw [if_pos c2]
        have : min K.length P.length = i := by omega
        rw [this]
      · rw [if_neg c2]
        have b1 : i < K.length := by omega
        have b2 : i < P.length := by omega
        have b3 : 0 ≤ 12 * p + (i : Int) ∧ 12 * p + (i : Int) < 576 := by omega
        have b4 : 0 ≤ 12 * s + (i : Int) ∧ 12 * s + (i : Int) < 960 := by omega
        have ih := m_an47 k21 (l4 := l4) (l5 := l5) (e := e) hs hp hK hP m107 m106 m139 fu (i + 1) (by omega) (by omega) (by omega)
        have w1 : w32 (12 * p) = 12 * p := w32_of (by omega) (by omega)
        have w2 : w32 (12 * p + i) = 12 * p + i := w32_of (by omega) (by omega)
        have w3 : w32 (12 * s) = 12 * s := w32_of (by omega) (by omega)
        have w4 : w32 (12 * s + i) = 12 * s + i := w32_of (by omega) (by omega)
        have w5 : w32 ((i : Int) + 1) = ((i + 1 : Nat) : Int) := by rw [w32_of (by omega) (by omega)]; rfl
        have st := tk_s K P i b1 b2
        have hx : (if K.take i = P.take i then (1 : Int) else 0) = 0 ∨ (if K.take i = P.take i then (1 : Int) else 0) = 1 := by split <;> simp
        rw [w1, w2, w3, w4, g_t b3, g_t b4, m106 i b2, m139 i b1]
        unfold F12_analysis_100
        rw [lt_d, lt_d, w5, ja_1 _ hx, ja_0 _ hx]
        rw [← ih]
        by_cases q : K.getD i 0 = P.getD i 0
        · rw [if_pos (by rw [q])]
          simp only [st, q, and_true]
        · rw [if_neg (by omega)]
          simp only [st, q, and_false, if_false]
/-- the plan finds the same row -/
theorem an_loop {c m : JM} {s e : Int} {K : List Nat} (R9 : r_p c m) (he : e = 0 ∨ e = 1) (hs : 0 ≤ s ∧ s < 80) (hK : k_ok K) (m139 : ∀ j : Nat, j < K.length → m.1 139 0 (12 * s + j) = (K.getD j 0 : Int)) :
    ∀ (d : Nat) (fu fu' : Nat) (i b b' lo : Int), 0 ≤ i → i + d = m.1 105 0 e → d < fu → d < fu' → ((b = -2 ∧ b' = -2 ∧ lo = 0) ∨ (0 ≤ b ∧ b < m.1 105 0 e ∧ b' = 24 * e + b ∧ lo = m.1 107 0 b')) →
    ∃ r r', F1_analyse_15 fu e (k_P K) b lo (K.length : Int) i c = some (r, c) ∧ F12_analysis_21 fu' s e (K.length : Int) b' i m = some (r', m) ∧ ((r = -2 ∧ r' = -2) ∨ (r = -1 ∧ r' = -1 ∧ (K.length : Int) ≤ 11) ∨ (0 ≤ r ∧ r < m.1 105 0 e ∧ r' = 24 * e + r ∧ m.1 108 0 r' = (K.length : Int)))
  | _, 0, _, _, _, _, _, _, _, h, _, _ => by omega
  | _, _ + 1, 0, _, _, _, _, _, _, _, h, _ => by omega
  | d, fu + 1, fu' + 1, i, b, b', lo, i0, hd, h1, h2, inv => by
    obtain ⟨p1, p2, p3, p4⟩ := R9 e he
    have hk1 := hK.1
    show ∃ r r', F1_analyse_15b (F1_analyse_15 fu) e (k_P K) b lo _ i c = some (r, c) ∧ F12_analysis_21b (F12_analysis_21 fu') s e _ b' i m = some (r', m) ∧ _
    unfold F1_analyse_15b F12_analysis_21b
    rw [← p1, g_t (show 0 ≤ e ∧ e < 2 by omega)]
    by_cases c1 : m.1 105 0 e ≤ i
    · rw [if_pos c1, if_pos c1]
      rcases inv with ⟨rfl, rfl, rfl⟩ | ⟨b0, b1, b2, b3⟩
      · rw [if_pos rfl, if_pos rfl]
        exact ⟨-2, -2, rfl, rfl, Or.inl ⟨rfl, rfl⟩⟩
      · obtain ⟨r1, r2, r3, r4, r5, r6, _⟩ := p4 (24 * e + b) (by omega) (by omega)
        rw [show 24 * e + b - 24 * e = b by omega] at r1
        rw [← b2] at r1 r5 r6
        rw [if_neg (by omega), if_neg (by omega), g_t (by omega), g_t (by omega), g_t (by omega), g_t (by omega), r1, Option.bind_some, Option.bind_some, r6]
        unfold F1_analyse_110
        by_cases q1 : (K.length : Int) ≤ m.1 108 0 b' <;> by_cases q2 : m.1 108 0 b' ≤ (K.length : Int)
        · rw [if_pos q1, if_pos q2, if_pos q2, if_pos q1]
          exact ⟨b, b', rfl, rfl, Or.inr (Or.inr ⟨b0, b1, b2, by omega⟩)⟩
        · rw [if_pos q1, if_neg q2, if_neg q2]
          exact ⟨-1, -1, rfl, rfl, Or.inr (Or.inl ⟨rfl, rfl, by omega⟩)⟩
        · rw [if_neg q1, if_pos q2, if_neg q1]
          exact ⟨-2, -2, rfl, rfl, Or.inl ⟨rfl, rfl⟩⟩
        · omega
    · obtain ⟨r1, ⟨P, hP, r2, r3, r4⟩, r5, r6, r7, _⟩ := p4 (24 * e + i) (by omega) (by omega)
      rw [show 24 * e + i - 24 * e = i by omega] at r1
      have w1 : w32 (24 * e) = 24 * e := w32_of (by omega) (by omega)
      have w2 : w32 (24 * e + i) = 24 * e + i := w32_of (by omega) (by omega)
      have w3 : w32 (i + 1) = i + 1 := w32_of (by omega) (by omega)
      have hz : (1 : Int) = if K.take 0 = P.take 0 then 1 else 0 := by simp
      have h47 := m_an47 (F12_analysis_21 fu') (m := m) (s := s) (e := e) (l4 := b') (l5 := i) (p := 24 * e + i) hs (by omega) hK hP r3 r4 m139 j_fu 0 (by omega) (by omega) (by unfold j_fu; have := hP.1; omega)
      rw [if_pos (by simp), show (((0 : Nat) : Int)) = (0 : Int) from rfl] at h47
      rw [if_neg c1, if_neg c1, lt_d, w1, w2, h47, g_t (by omega), r1, Option.bind_some, lt_d, r2, f_countOf hP, Option.bind_some]
      unfold F12_analysis_109 F12_analysis_154 F12_analysis_158 F1_analyse_61 F1_analyse_84
      rw [w3, f_beginsWith hP hK, f_beginsWith hK hP, Option.bind_some, Option.bind_some, g_t (by omega), r3]
      dsimp only
      have ih := an_loop R9 he hs hK m139 (d - 1) fu fu' (i + 1)
      by_cases q1 : (P.length : Int) ≤ (K.length : Int)
      · have mn : min K.length P.length = P.length := by omega
        rw [mn, if_pos q1, if_pos q1, List.take_length]
        by_cases q2 : K.take P.length = P
        · rw [if_neg (show ¬ ((if K.take P.length = P then (1 : Int) else 0) = 0) by rw [if_pos q2]; decide)]
          have q3 : (if P.length ≤ K.length ∧ K.take P.length = P then (1 : Int) else 0) = 1 := if_pos ⟨by omega, q2⟩
          rw [q3, if_neg (show ¬ ((1 : Int) = 0) by decide)]
          rcases inv with ⟨rfl, rfl, rfl⟩ | ⟨b0, b1, b2, b3⟩
          · rw [if_neg (by omega), if_pos rfl]
            exact ih _ _ _ (by omega) (by omega) (by omega) (by omega) (Or.inr ⟨by omega, by omega, rfl, by rw [r3]⟩)
          · rw [if_neg (show ¬ b' = -2 by omega), g_t (by omega), g_t (by omega), ← b3]
            by_cases q4 : (P.length : Int) ≤ lo
            · rw [if_pos q4, if_pos q4]
              exact ih _ _ _ (by omega) (by omega) (by omega) (by omega) (Or.inr ⟨b0, b1, b2, b3⟩)
            · rw [if_neg q4, if_neg q4]
              exact ih _ _ _ (by omega) (by omega) (by omega) (by omega) (Or.inr ⟨by omega, by omega, rfl, by rw [r3]⟩)
        · rw [if_pos (show (if K.take P.length = P then (1 : Int) else 0) = 0 by rw [if_neg q2])]
          have q3 : (if P.length ≤ K.length ∧ K.take P.length = P then (1 : Int) else 0) = 0 := if_neg (fun z => q2 z.2)
          rw [q3, if_pos rfl]
          have := ih b b' lo (by omega) (by omega) (by omega) (by omega) inv
          split <;> exact this
      · have mn : min K.length P.length = K.length := by omega
        rw [mn, if_neg q1, if_neg q1, List.take_length]
        by_cases q2 : P.take K.length = K
        · rw [if_neg (show ¬ ((if K = P.take K.length then (1 : Int) else 0) = 0) by rw [if_pos q2.symm]; decide)]
          have q3 : (if K.length ≤ P.length ∧ P.take K.length = K then (1 : Int) else 0) = 1 := if_pos ⟨by omega, q2⟩
          rw [q3, if_neg (show ¬ ((1 : Int) = 0) by decide)]
          exact ⟨-1, -1, rfl, rfl, Or.inr (Or.inl ⟨rfl, rfl, by have := hP.1; omega⟩)⟩
        · rw [if_pos (show (if K = P.take K.length then (1 : Int) else 0) = 0 by rw [if_neg (fun z => q2 z.symm)])]
          have q3 : (if K.length ≤ P.length ∧ P.take K.length = K then (1 : Int) else 0) = 0 := if_neg (fun z => q2 z.2)
          have q4 : (if P.length ≤ K.length ∧ K.take P.length = P then (1 : Int) else 0) = 0 := if_neg (fun z => by omega)
          rw [q3, if_pos rfl, f_beginsWith hK hP, Option.bind_some, q4, if_pos rfl]
          have := ih b b' lo (by omega) (by omega) (by omega) (by omega) inv
          split <;> exact this
theorem p_analyse {c m : JM} {s e x : Int} (R9 : r_p c m) (he : e = 0 ∨ e = 1) (hs : 0 ≤ s ∧ s < 80) (h5 : m.1 135 0 s = e) (hk : k_R x (m.1 140 0 s) (fun j => m.1 139 0 (12 * s + j))) :
    ∃ r r', F1_analyse e x c = some (r, c) ∧ F12_analysis s m = some (r', m) ∧ ((r = -2 ∧ r' = -2) ∨ (r = -1 ∧ r' = -1 ∧ m.1 140 0 s ≤ 11) ∨ (0 ≤ r ∧ r < m.1 105 0 e ∧ r' = 24 * e + r ∧ m.1 108 0 r' = m.1 140 0 s)) := by
  obtain ⟨K, hK, k1, k2, k3⟩ := hk
  obtain ⟨p1, p2, p3, p4⟩ := R9 e he
  obtain ⟨r, r', a1, a2, a3⟩ := an_loop R9 he hs hK k3 (m.1 105 0 e).toNat j_fu j_fu 0 (-2) (-2) 0 (by omega) (by omega) (by unfold j_fu; omega) (by unfold j_fu; omega) (Or.inl ⟨rfl, rfl, rfl⟩)
  refine ⟨r, r', ?_, ?_, by rw [k2]; exact a3⟩
  · unfold F1_analyse
    rw [k1, f_countOf hK, Option.bind_some]
    exact a1
  · unfold F12_analysis
    rw [g_t hs, lt_d, g_t hs, lt_d, h5, k2]
    exact a2
