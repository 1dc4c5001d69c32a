/-! ===== speech: one call, in the reference ===== -/
def HX (m : JM) (s x : Int) : Prop := (0 ≤ x ∧ x < 16 ∧ -8191 ≤ m.1 130 0 x ∧ m.1 130 0 x ≤ 8191) ∨ (100 ≤ x ∧ x < 116 ∧ ∃ k : Nat, k < 256 ∧ m.1 184 0 (16 * (1 - m.1 135 0 s) + x - 100) = (k : Int))
theorem HX_x {m : JM} {s x : Int} (h : HX m s x) : (0 ≤ x ∧ x < 16) ∨ (100 ≤ x ∧ x < 116) := h.imp (fun z => ⟨z.1, z.2.1⟩) (fun z => ⟨z.1, z.2.1⟩)
theorem g_mr {m : JM} {s x : Int} (h : HX m s x) : -8191 ≤ g_m m s x ∧ g_m m s x ≤ 8191 := by
  unfold g_m
  rcases h with ⟨x0, x1, _⟩ | ⟨x0, x1, k, k1, k2⟩
  · rw [if_pos (by omega)]
    split
    · exact s_hr
    · exact ⟨by decide, by decide⟩
  · rw [if_neg (by omega), k2]; exact (s_bb k k1).1
theorem m_gets {m : JM} {s x v : Int} (hs : 0 ≤ s ∧ s < 80) (he : m.1 135 0 s = 0 ∨ m.1 135 0 s = 1) (hx : (0 ≤ x ∧ x < 16) ∨ (100 ≤ x ∧ x < 116)) (hv : -8191 ≤ v ∧ v ≤ 8191) : ∃ m', F12_gets s x v m = some m' ∧ m'.2 = m.2 ∧ ∀ k n j, m'.1 k n j = if k = 131 ∧ n = 0 ∧ j = x ∧ x < 100 ∧ m.1 119 0 j = s then s_h (m.1 135 0 s) v else if k = 185 ∧ n = 0 ∧ 100 ≤ x ∧ j = 16 * m.1 135 0 s + x - 100 then s_l0 v else m.1 k n j := by
  unfold F12_gets
  rw [g_t hs, lt_d, m_isC, Option.bind_some]
  generalize m.1 135 0 s = e at he ⊢
  dsimp only
  rcases hx with ⟨x0, x1⟩ | ⟨x0, x1⟩
  · rw [if_pos (by omega), g_t ⟨x0, x1⟩]
    by_cases q : m.1 119 0 x = s
    · refine ⟨sI m 131 0 x (s_h e v), ?_, rfl, fun k n j => ?_⟩
      · rw [if_pos q, f_heardOf he hv, Option.bind_some, g_t ⟨x0, x1⟩]; rfl
      · rw [rI_I]
        grind
    · refine ⟨m, by rw [if_neg q], rfl, fun k n j => ?_⟩
      grind
  · rw [if_neg (by omega), f_codeOf0 hv, Option.bind_some, (n_c1 he ⟨x0, x1⟩).2, g_t (by omega)]
    refine ⟨sI m 185 0 (16 * e + x - 100) (s_l0 v), rfl, rfl, fun k n j => ?_⟩
    rw [rI_I]
    grind
theorem g_m_cg {m m' : JM} (h : ∀ k n j, k ≠ 131 → k ≠ 185 → m'.1 k n j = m.1 k n j) (s x : Int) : g_m m' s x = g_m m s x := by
  unfold g_m
  rw [h 119 0 x (by decide) (by decide), h 135 0 s (by decide) (by decide), h 130 0 x (by decide) (by decide), h 184 0 _ (by decide) (by decide)]
theorem HX_cg {m m' : JM} (h : ∀ k n j, k ≠ 131 → k ≠ 185 → m'.1 k n j = m.1 k n j) {s x : Int} (H : HX m s x) : HX m' s x := by
  unfold HX
  rw [h 135 0 s (by decide) (by decide), h 130 0 x (by decide) (by decide), h 184 0 _ (by decide) (by decide)]
  exact H
def vAm (m : JM) (s : Int) : Int := if m.1 137 0 s < 200 then g_m m s (m.1 137 0 s) else cl8 (sm (oM m s) 80)
def oLm (m : JM) (s j : Int) : Int := s_h (m.1 135 0 s) (if j = m.1 136 0 s then vAm m s else g_m m s (m.1 136 0 s))
def oTm (m : JM) (s j : Int) : Int := s_l0 (if 100 ≤ m.1 136 0 s ∧ j = 16 * m.1 135 0 s + m.1 136 0 s - 100 then vAm m s else g_m m s (m.1 136 0 s))
abbrev hTm (m : JM) (s j : Int) : Prop := (100 ≤ m.1 136 0 s ∧ j = 16 * m.1 135 0 s + m.1 136 0 s - 100) ∨ (100 ≤ m.1 137 0 s ∧ m.1 137 0 s < 200 ∧ j = 16 * m.1 135 0 s + m.1 137 0 s - 100)
/-- what the reference knows of a call that talks -/
def tk (m : JM) (s : Int) : Prop := (m.1 135 0 s = 0 ∨ m.1 135 0 s = 1) ∧ HX m s (m.1 136 0 s) ∧ ((HX m s (m.1 137 0 s) ∧ m.1 136 0 s ≠ m.1 137 0 s) ∨ 200 ≤ m.1 137 0 s) ∧ (∀ j, 0 ≤ j → j < 16 → m.1 119 0 j = s → j = m.1 136 0 s ∨ j = m.1 137 0 s)
theorem m_one {m : JM} (S : spm m) {s : Int} (hs : 0 ≤ s ∧ s < 80) (h3 : m.1 133 0 s = 3) (T : tk m s) (fu : Nat) : ∃ m', F12_speaks_48 (fu + 1) s m = F12_speaks_48 fu (s + 1) m' ∧ m'.2 = m.2 ∧ ∀ k n j, m'.1 k n j = if k = 131 ∧ n = 0 ∧ 0 ≤ j ∧ j < 16 ∧ m.1 119 0 j = s then oLm m s j else if k = 185 ∧ n = 0 ∧ hTm m s j then oTm m s j else m.1 k n j := by
  obtain ⟨he, hx, hy, hw⟩ := T
  have xr := HX_x hx
  have sb : F12_speaks_48 (fu + 1) s m = if m.1 137 0 s < 200 then F12_speaks_84 (F12_speaks_48 fu) s 0 m else F12_speaks_84 (F12_speaks_48 fu) s 1 m := by
    show F12_speaks_48b (F12_speaks_48 fu) s m = _
    unfold F12_speaks_48b
    rw [if_neg (by omega), g_t hs, if_pos h3, g_t hs]
  have w1 : w32 (s + 1) = s + 1 := w32_1 hs.1 (by omega)
  by_cases q : m.1 137 0 s < 200
  · have hy' : HX m s (m.1 137 0 s) ∧ m.1 136 0 s ≠ m.1 137 0 s := hy.elim id (fun z => by omega)
    have yr := HX_x hy'.1
    have hv : vAm m s = g_m m s (m.1 137 0 s) := if_pos q
    obtain ⟨m1, e1, e2, e3⟩ := m_gets (s := s) (x := m.1 136 0 s) (v := g_m m s (m.1 137 0 s)) hs he xr (g_mr hy'.1)
    have k1 : ∀ k n j, k ≠ 131 → k ≠ 185 → m1.1 k n j = m.1 k n j := fun k n j a b => by rw [e3, if_neg (fun z => a z.1), if_neg (fun z => b z.1)]
    have p5 := k1 135 0 s (by decide) (by decide)
    have p6 := k1 136 0 s (by decide) (by decide)
    have p7 := k1 137 0 s (by decide) (by decide)
    have G1 : F12_given s (m.1 136 0 s) m1 = some (g_m m s (m.1 136 0 s), m1) := by
      rw [m_given hs (by rw [p5]; exact he) (HX_cg k1 hx), g_m_cg k1]
    obtain ⟨m2, g1, g2, g3⟩ := m_gets (m := m1) (s := s) (x := m.1 137 0 s) (v := g_m m s (m.1 136 0 s)) hs (by rw [p5]; exact he) yr (g_mr hx)
    refine ⟨m2, ?_, g2.trans e2, fun k n j => ?_⟩
    · rw [sb, if_pos q]
      unfold F12_speaks_84
      rw [g_t hs, if_pos rfl, g_t hs, m_given hs he hy'.1, Option.bind_some]
      unfold F12_speaks_116
      dsimp only
      rw [Option.bind_some, g_t rfl, e1, Option.bind_some, if_pos rfl, g_t hs, g_t hs, p6, p7, G1, Option.bind_some]
      dsimp only
      rw [g1, Option.bind_some]
      unfold F12_speaks_145
      rw [w1]
    · have b1 := k1 119 0 j (by decide) (by decide)
      rw [g3, p5, b1, e3]
      have a1 := hw j
      have a2 := hy'.2
      unfold oLm oTm hTm
      rw [hv]
      clear e1 e2 e3 k1 p5 p6 p7 G1 g1 g2 g3 b1 sb hw hy hx hy' S w1 hv
      generalize m.1 136 0 s = x at *
      generalize m.1 137 0 s = y at *
      generalize m.1 135 0 s = e at *
      by_cases k131 : k = 131
      · subst k131; grind (splits := 30)
      · by_cases k185 : k = 185
        · subst k185; grind (splits := 30)
        · rw [if_neg (fun z => k131 z.1), if_neg (fun z => k185 z.1), if_neg (fun z => k131 z.1), if_neg (fun z => k185 z.1), if_neg (fun z => k131 z.1), if_neg (fun z => k185 z.1)]
  · have hv : vAm m s = cl8 (sm (oM m s) 80) := if_neg q
    obtain ⟨m1, e1, e2, e3⟩ := m_gets (s := s) (x := m.1 136 0 s) (v := cl8 (sm (oM m s) 80)) hs he xr (cl8_b _)
    refine ⟨m1, ?_, e2, fun k n j => ?_⟩
    · rw [sb, if_neg q]
      unfold F12_speaks_84
      rw [g_t hs, if_neg (by decide), m_others S hs, Option.bind_some]
      unfold F12_speaks_116
      dsimp only
      rw [Option.bind_some, g_t rfl, e1, Option.bind_some, if_neg (by decide)]
      unfold F12_speaks_145
      rw [w1]
    · rw [e3]
      have a1 := hw j
      unfold oLm oTm hTm
      rw [hv]
      clear e1 e2 e3 sb hw hy hx S w1 hv
      generalize m.1 136 0 s = x at *
      generalize m.1 137 0 s = y at *
      generalize m.1 135 0 s = e at *
      by_cases k131 : k = 131
      · subst k131; grind (splits := 30)
      · by_cases k185 : k = 185
        · subst k185; grind (splits := 30)
        · rw [if_neg (fun z => k131 z.1), if_neg (fun z => k185 z.1), if_neg (fun z => k131 z.1), if_neg (fun z => k185 z.1)]
