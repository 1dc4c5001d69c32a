/-! ===== speech: all calls, in the reference ===== -/
def sma (m m' : JM) : Prop := m'.2 = m.2 ∧ ∀ k n j, k ≠ 131 → k ≠ 185 → m'.1 k n j = m.1 k n j
theorem sma_oM {m m' : JM} (h : sma m m') (x s : Int) : oM m' x s = oM m x s := by
  unfold oM
  rw [g_m_cg h.2, h.2 133 0 s (by decide) (by decide), h.2 135 0 s (by decide) (by decide), h.2 135 0 x (by decide) (by decide), h.2 137 0 s (by decide) (by decide), h.2 137 0 x (by decide) (by decide), h.2 136 0 s (by decide) (by decide)]
theorem sma_vA {m m' : JM} (h : sma m m') (s : Int) : vAm m' s = vAm m s := by
  unfold vAm
  rw [g_m_cg h.2, h.2 137 0 s (by decide) (by decide), sm_eq (g := oM m s) (g' := oM m' s) (n := 80) (fun i _ _ => sma_oM h s i)]
theorem sma_oL {m m' : JM} (h : sma m m') (s j : Int) : oLm m' s j = oLm m s j := by
  unfold oLm
  rw [g_m_cg h.2, sma_vA h, h.2 135 0 s (by decide) (by decide), h.2 136 0 s (by decide) (by decide)]
theorem sma_oT {m m' : JM} (h : sma m m') (s j : Int) : oTm m' s j = oTm m s j := by
  unfold oTm
  rw [g_m_cg h.2, sma_vA h, h.2 135 0 s (by decide) (by decide), h.2 136 0 s (by decide) (by decide)]
theorem sma_hT {m m' : JM} (h : sma m m') (s j : Int) : hTm m' s j ↔ hTm m s j := by
  unfold hTm
  rw [h.2 135 0 s (by decide) (by decide), h.2 136 0 s (by decide) (by decide), h.2 137 0 s (by decide) (by decide)]
/-- one that talks gives what g_m says -/
theorem tk_g {m : JM} {s : Int} (hs : 0 ≤ s ∧ s < 80) (T : tk m s) : F12_given s (m.1 136 0 s) m = some (g_m m s (m.1 136 0 s), m) ∧ -8191 ≤ g_m m s (m.1 136 0 s) ∧ g_m m s (m.1 136 0 s) ≤ 8191 := ⟨m_given hs T.1 T.2.1, g_mr T.2.1⟩
theorem sma_tk {m m' : JM} (h : sma m m') {s : Int} (T : tk m s) : tk m' s := by
  obtain ⟨t1, t2, t3, t4⟩ := T
  have p5 := h.2 135 0 s (by decide) (by decide)
  have p6 := h.2 136 0 s (by decide) (by decide)
  have p7 := h.2 137 0 s (by decide) (by decide)
  refine ⟨by rw [p5]; exact t1, by rw [p6]; exact HX_cg h.2 t2, ?_, fun j a b d => ?_⟩
  · rw [p6, p7]; exact t3.imp (fun z => ⟨HX_cg h.2 z.1, z.2⟩) id
  · rw [p6, p7]; rw [h.2 119 0 j (by decide) (by decide)] at d; exact t4 j a b d
def jv (m : JM) (l : Int) (m1 : JM) : Prop := (∀ j, 0 ≤ j → j < 16 → 0 ≤ m.1 119 0 j → m.1 119 0 j < l → m.1 133 0 (m.1 119 0 j) = 3 → m1.1 131 0 j = oLm m (m.1 119 0 j) j) ∧ (∀ n j, n ≠ 0 ∨ ¬ (0 ≤ j ∧ j < 16 ∧ 0 ≤ m.1 119 0 j ∧ m.1 119 0 j < l ∧ m.1 133 0 (m.1 119 0 j) = 3) → m1.1 131 n j = m.1 131 n j) ∧ (∀ j s, 0 ≤ s → s < l → m.1 133 0 s = 3 → hTm m s j → m1.1 185 0 j = oTm m s j) ∧ (∀ n j, n ≠ 0 ∨ (∀ s, 0 ≤ s → s < l → m.1 133 0 s = 3 → ¬ hTm m s j) → m1.1 185 n j = m.1 185 n j)
theorem jv_skip {m m1 : JM} {l : Int} (h3 : m.1 133 0 l ≠ 3) (J : jv m l m1) : jv m (l + 1) m1 := by
  obtain ⟨J1, J2, J3, J4⟩ := J
  have up : ∀ s, m.1 133 0 s = 3 → s < l + 1 → s < l := fun s z y => by
    have : s ≠ l := fun x => h3 (by rw [← x]; exact z)
    omega
  refine ⟨fun j a b d g q => J1 j a b d (up _ q g) q, fun n j h => J2 n j (h.imp id (fun z y => z ⟨y.1, y.2.1, y.2.2.1, by omega, y.2.2.2.2⟩)), fun j s a b d q => J3 j s a (up s d b) d q, fun n j h => J4 n j (h.imp id (fun z s a b => z s a (by omega)))⟩
theorem jv_step {m m1 m2 : JM} {l : Int} (h0 : 0 ≤ l) (h3 : m.1 133 0 l = 3) (U : ∀ s s' j, 0 ≤ s → s < 80 → 0 ≤ s' → s' < 80 → m.1 133 0 s = 3 → m.1 133 0 s' = 3 → hTm m s j → hTm m s' j → s = s') (h80 : l < 80) (k : ∀ k n j, m2.1 k n j = if k = 131 ∧ n = 0 ∧ 0 ≤ j ∧ j < 16 ∧ m.1 119 0 j = l then oLm m l j else if k = 185 ∧ n = 0 ∧ hTm m l j then oTm m l j else m1.1 k n j) (J : jv m l m1) : jv m (l + 1) m2 := by
  obtain ⟨J1, J2, J3, J4⟩ := J
  have kL : ∀ n j, ¬ (n = 0 ∧ 0 ≤ j ∧ j < 16 ∧ m.1 119 0 j = l) → m2.1 131 n j = m1.1 131 n j := fun n j z => by rw [k, if_neg (fun y => z y.2), if_neg (fun y => absurd y.1 (by decide))]
  have kT : ∀ n j, ¬ (n = 0 ∧ hTm m l j) → m2.1 185 n j = m1.1 185 n j := fun n j z => by rw [k, if_neg (fun y => absurd y.1 (by decide)), if_neg (fun y => z y.2)]
  refine ⟨fun j a b d g q => ?_, fun n j h => ?_, fun j s a b d q => ?_, fun n j h => ?_⟩
  · by_cases e : m.1 119 0 j = l
    · rw [k, if_pos ⟨rfl, rfl, a, b, e⟩, e]
    · rw [kL 0 j (fun z => e z.2.2.2)]
      exact J1 j a b d (by omega) q
  · rw [kL n j (fun z => by
      rcases h with y | y
      · exact y z.1
      · exact y ⟨z.2.1, z.2.2.1, by omega, by omega, by rw [z.2.2.2]; exact h3⟩)]
    exact J2 n j (h.imp id (fun z y => z ⟨y.1, y.2.1, y.2.2.1, by omega, y.2.2.2.2⟩))
  · by_cases e : s = l
    · rw [k, if_neg (fun y => absurd y.1 (by decide)), if_pos ⟨rfl, rfl, by rw [← e]; exact q⟩, e]
    · rw [kT 0 j (fun z => e (U s l j a (by omega) h0 h80 d h3 q z.2))]
      exact J3 j s a (by omega) d q
  · rw [kT n j (fun z => by
      rcases h with y | y
      · exact y z.1
      · exact y l h0 (by omega) h3 z.2)]
    exact J4 n j (h.imp id (fun z s a b => z s a (by omega)))
theorem m_s48 {m : JM} (T : ∀ s, 0 ≤ s → s < 80 → m.1 133 0 s = 3 → tk m s) (U : ∀ s s' j, 0 ≤ s → s < 80 → 0 ≤ s' → s' < 80 → m.1 133 0 s = 3 → m.1 133 0 s' = 3 → hTm m s j → hTm m s' j → s = s') : ∀ (d : Nat) (fu : Nat) (l : Int) (m1 : JM), sma m m1 → jv m l m1 → 0 ≤ l → l + d = 80 → d < fu → ∃ m', F12_speaks_48 fu l m1 = F12_speaks_153 j_fu 0 m' ∧ sma m m' ∧ jv m 80 m'
  | _, 0, _, _, _, _, _, _, h => by omega
  | 0, fu + 1, l, m1, k1, k2, h0, h1, h2 => by
    refine ⟨m1, ?_, k1, ?_⟩
    · show F12_speaks_48b (F12_speaks_48 fu) l m1 = _
      unfold F12_speaks_48b
      rw [if_pos (by omega)]
    · rw [show (80 : Int) = l by omega]; exact k2
  | d + 1, fu + 1, l, m1, k1, k2, h0, h1, h2 => by
    have hl : 0 ≤ l ∧ l < 80 := by omega
    have p3 := k1.2 133 0 l (by decide) (by decide)
    by_cases s3 : m.1 133 0 l = 3
    · have S1 : spm m1 := fun s a b z => tk_g ⟨a, b⟩ (sma_tk k1 (T s a b (by rw [k1.2 133 0 s (by decide) (by decide)] at z; exact z)))
      obtain ⟨m2, e1, e2, e3⟩ := m_one S1 hl (by rw [p3]; exact s3) (sma_tk k1 (T l h0 hl.2 s3)) fu
      have e3' : ∀ k n j, m2.1 k n j = if k = 131 ∧ n = 0 ∧ 0 ≤ j ∧ j < 16 ∧ m.1 119 0 j = l then oLm m l j else if k = 185 ∧ n = 0 ∧ hTm m l j then oTm m l j else m1.1 k n j := fun k n j => by
        rw [e3, sma_oL k1, sma_oT k1, k1.2 119 0 j (by decide) (by decide)]
        simp only [sma_hT k1]
      have s2 : sma m m2 := ⟨e2.trans k1.1, fun k n j a b => by rw [e3', if_neg (fun z => a z.1), if_neg (fun z => b z.1)]; exact k1.2 k n j a b⟩
      obtain ⟨m', q1, q2⟩ := m_s48 T U d fu (l + 1) m2 s2 (jv_step h0 s3 U hl.2 e3' k2) (by omega) (by omega) (by omega)
      exact ⟨m', by rw [e1]; exact q1, q2⟩
    · obtain ⟨m', q1, q2⟩ := m_s48 T U d fu (l + 1) m1 k1 (jv_skip s3 k2) (by omega) (by omega) (by omega)
      refine ⟨m', ?_, q2⟩
      show F12_speaks_48b (F12_speaks_48 fu) l m1 = _
      unfold F12_speaks_48b F12_speaks_145
      rw [if_neg (by omega), g_t hl, p3, if_neg s3, w32_1 h0 (by omega)]
      exact q1
