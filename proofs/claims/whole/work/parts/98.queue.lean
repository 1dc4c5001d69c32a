/-! ===== queues and rooms take a call in ===== -/
def w_x (k : Nat) (j : Int) : Bool := k == 0 || (k == 4 && (j == 11 || j == 12 || j == 13)) || (k == 8 && (j == 2 || j == 3)) || (k == 2 && (j == 3 || j == 4 || j == 5)) || k == 23 || (k == 11 && j == 13)
def w_xm (k : Nat) (j : Int) : Bool := k == 119 || k == 120 || k == 121 || k == 133 || (decide (135 ≤ k) && decide (k ≤ 148)) || (decide (152 ≤ k) && decide (k ≤ 155))
theorem w_e1 : ∀ k j, w_C k j = false → w_x k j = false := by intro k j; simp [w_C, w_x]; omega
theorem w_e2 : ∀ k j, w_M k j = false → w_xm k j = false := by intro k j; simp [w_M, w_xm]; omega
theorem w_e3 : ∀ k j, rkC k j = true → w_x k j = false := by intro k j; simp [rkC, w_x]; omega
theorem w_e4 : ∀ k j, rkM k j = true → w_xm k j = false := by intro k j; simp [rkM, w_xm]; omega
theorem w_e5 : ∀ k j, rlC k j = true → w_x k j = false := by intro k j; simp [rlC, w_x]; omega
theorem w_e6 : ∀ k (j : Int), rlM k = true → w_xm k j = false := by intro k j; simp [rlM, w_xm]; omega
theorem w_e7 : ∀ k j, rpC k j = true → w_x k j = false := by intro k j; simp [rpC, w_x]; omega
theorem w_e8 : ∀ k (j : Int), rpM k = true → w_xm k j = false := by intro k j; simp [rpM, w_xm]; omega
section RQ
variable {f : Int → Int} {N z1 z2 X : Int} {sec : Option Int} {Y zd : Int} {c m c' m' : JM} {B B' : Int} {H H' : HT}
theorem rel_mk {z1' z2' : Int} {sec' : Option Int} {Y' zd' : Int} (hb : B ≤ B') (R : rel f N z1 z2 X sec Y zd B H c m) (sc : so w_x c c') (sm : so w_xm m m') (hh : r_h f N z1' z2' X sec' Y' zd' c' m') (hq : r_q f B' c' m') (hr : r_r c' m') (ha : r_a f B' H' c' m') :
    rel f N z1' z2' X sec' Y' zd' B' H' c' m' := by
  obtain ⟨R1, R2, R3, R4, R5, R6, R7, R8, R9, R10⟩ := R
  refine ⟨?_, ?_, hh, ?_, hq, hr, ha, ?_, ?_, ?_⟩
  · exact r_k_cg (fun k n j q => ⟨(sc k n j (w_e3 k j q)).1, (sc k n j (w_e3 k j q)).2.2⟩) (fun k n j q => (sm k n j (w_e4 k j q)).1) R1
  · exact r_l_cg (fun k n j q => (sc k n j (w_e5 k j q)).1) (fun k n j q => (sm k n j (w_e6 k j q)).1) R2
  · exact r_m_mono hb (fun e he => r_m_cg (fun k n j q => by rcases q with rfl | rfl <;> exact ⟨(sc _ n j rfl).1, (sc _ n j rfl).2.1⟩) (fun k n j a b => (sm k n j (by simp [w_xm]; omega)).1) (R4 e he))
  · exact r_g_mono hb (g_cg R8 (fun j => (sc 26 0 j rfl).1) (fun j => (sc 27 0 j rfl).1) (sc 3 0 2 rfl).1 (fun k j a b => (sm k 0 j (by simp [w_xm]; omega)).1) (sm 12 0 90 rfl).1)
  · exact r_p_cg (fun k n j q => sc k n j (w_e7 k j q)) (fun k n j q => (sm k n j (w_e8 k j q)).1) R9
  · exact r_f_cg (fun k n j q => sc k n j (w_e7 k j q)) (fun k n j q => (sm k n j (w_e8 k j q)).1) R10
/-- a call is put into a queue at place p -/
theorem q_ins (hf : f_ok f) (R : r_q f B c m) {id q p tn : Int} (hv : lv c id) (s4 : c.1 0 id 9 ≠ 4) (q0 : 0 ≤ q) (q1 : q < 6) (p0 : 0 ≤ p) (p1 : p ≤ m.1 153 0 q) (hb : B ≤ B')
    (k9 : ∀ n, c'.1 0 n 9 = if n = id then 4 else c.1 0 n 9) (k14 : ∀ n, c'.1 0 n 14 = if n = id then tn else c.1 0 n 14) (k5 : ∀ n, c'.2.2 0 n 5 = if n = id then some q else c.2.2 0 n 5)
    (k21 : ∀ n, c'.1 2 n 1 = c.1 2 n 1 ∧ c'.1 2 n 2 = c.1 2 n 2) (k23 : ∀ n, c'.1 2 n 3 = if n = q then c.1 2 q 3 + 1 else c.1 2 n 3) (k24 : ∀ n, n ≠ q → c'.1 2 n 4 = c.1 2 n 4 ∧ c'.1 2 n 5 = c.1 2 n 5)
    (kb : -B' ≤ c'.1 2 q 4 ∧ c'.1 2 q 4 ≤ 1 ∧ 0 ≤ c'.1 2 q 5 ∧ c'.1 2 q 5 ≤ B' ∧ c'.1 2 q 4 ≤ tn ∧ tn ≤ c'.1 2 q 5 ∧ c'.1 2 q 4 ≤ c.1 2 q 4 ∧ c.1 2 q 5 ≤ c'.1 2 q 5)
    (ord : ∀ a i, 0 ≤ i → i < m.1 153 0 q → m.1 152 0 (80 * q + i) = f a → c.1 2 q 4 ≤ c.1 0 a 14 → c.1 0 a 14 ≤ c.1 2 q 5 → (i < p → c.1 0 a 14 < tn) ∧ (p ≤ i → tn < c.1 0 a 14))
    (k25 : ∀ n j, c'.2.2 25 n j = c.2.2 25 n j) (km : ∀ k j, 149 ≤ k → k ≤ 151 → m'.1 k 0 j = m.1 k 0 j)
    (km2 : ∀ q' i, 0 ≤ q' → q' < 6 → 0 ≤ i → i < 80 → m'.1 152 0 (80 * q' + i) = if q' = q ∧ i = p then f id else if q' = q ∧ p < i ∧ i ≤ m.1 153 0 q then m.1 152 0 (80 * q' + (i - 1)) else m.1 152 0 (80 * q' + i)) (km3 : ∀ j, m'.1 153 0 j = if j = q then m.1 153 0 q + 1 else m.1 153 0 j) : r_q f B' c' m' := by
  have hMx := fun q' a b => r_q_many hf R (q := q') a b
  have hM := hMx q q0 q1
  have b9 : ∀ j, m'.1 149 0 j = m.1 149 0 j := fun j => km 149 j (by omega) (by omega)
  have b0 : ∀ j, m'.1 150 0 j = m.1 150 0 j := fun j => km 150 j (by omega) (by omega)
  have b1 : ∀ j, m'.1 151 0 j = m.1 151 0 j := fun j => km 151 j (by omega) (by omega)
  obtain ⟨h1, h2, h3, h4, h5, h6⟩ := R
  have hlv : ∀ i, lv c i → i ≠ id → lv c' i := fun i a b => ⟨a.1, a.2.1, by rw [k9, if_neg b]; exact a.2.2⟩
  have hlv2 : ∀ i, lv c' i → i ≠ id → lv c i := fun i a b => ⟨a.1, a.2.1, by have := a.2.2; rw [k9, if_neg b] at this; exact this⟩
  -- an entry of the old queue is another call
  have ho : ∀ q' i a, 0 ≤ q' → q' < 6 → 0 ≤ i → i < m.1 153 0 q' → m.1 152 0 (80 * q' + i) = f a → a ≠ id ∧ lv c a ∧ c.1 0 a 9 = 4 ∧ c.2.2 0 a 5 = some q' := fun q' i a a0 a1 i0 i1 e => by
    obtain ⟨x, x1, x2, x3, x4⟩ := (h3 q' a0 a1).2 i i0 i1
    have : a = x := hf.1 _ _ (e.symm.trans x4)
    subst this
    exact ⟨fun z => s4 (z ▸ x2), x1, x2, x3⟩
  -- where an entry of the new queue stood
  have nq : ∀ q' i, 0 ≤ q' → q' < 6 → 0 ≤ i → i < m'.1 153 0 q' → (q' = q ∧ i = p ∧ m'.1 152 0 (80 * q' + i) = f id) ∨ (¬ (q' = q ∧ i = p) ∧ m'.1 152 0 (80 * q' + i) = m.1 152 0 (80 * q' + (if q' = q ∧ p < i then i - 1 else i)) ∧ (if q' = q ∧ p < i then i - 1 else i) < m.1 153 0 q' ∧ 0 ≤ (if q' = q ∧ p < i then i - 1 else i)) := fun q' i a b d e => by
    have := hMx q' a b
    rw [km3] at e
    have e2 : i < 80 := by split at e <;> omega
    rw [km2 q' i a b d e2]
    by_cases z : q' = q ∧ i = p
    · rw [if_pos z]; exact Or.inl ⟨z.1, z.2, rfl⟩
    · rw [if_neg z]
      refine Or.inr ⟨z, ?_⟩
      by_cases z2 : q' = q ∧ p < i
      · rw [if_pos z2, if_pos ⟨z2.1, z2.2, by rw [if_pos z2.1] at e; omega⟩]
        refine ⟨rfl, ?_, by omega⟩
        rw [if_pos z2.1] at e; rw [z2.1]; omega
      · rw [if_neg z2, if_neg (fun w => z2 ⟨w.1, w.2.1⟩)]
        refine ⟨rfl, ?_, d⟩
        by_cases z3 : q' = q
        · have : i < p := by omega
          rw [z3]; omega
        · rw [if_neg z3] at e; exact e
  refine ⟨?_, ?_, ?_, ?_, ?_, ?_⟩
  · intro x
    obtain ⟨a, b, d⟩ := h1 x
    obtain ⟨g1, g2⟩ := k21 x
    rw [b0, b1, km3, g1, g2, k23]
    refine ⟨a, b, ?_⟩
    by_cases z : x = q
    · subst z; rw [if_pos rfl, if_pos rfl, d]
    · rw [if_neg z, if_neg z, d]
  · simp only [b0, b9, k25]
    exact h2
  · intro q' a b
    constructor
    · rw [km3]; have := (h3 q' a b).1; have := (h3 q q0 q1).1; split <;> omega
    · intro i i0 i1
      rcases nq q' i a b i0 i1 with ⟨n1, n2, n3⟩ | ⟨n0, n1, n2, n3⟩
      · exact ⟨id, ⟨hv.1, hv.2.1, by rw [k9, if_pos rfl]; decide⟩, by rw [k9, if_pos rfl], by rw [k5, if_pos rfl, n1], n3⟩
      · obtain ⟨x, x1, x2, x3, x4⟩ := (h3 q' a b).2 _ n3 n2
        have hx := (ho q' _ x a b n3 n2 x4).1
        exact ⟨x, hlv x x1 hx, by rw [k9, if_neg hx]; exact x2, by rw [k5, if_neg hx]; exact x3, by rw [n1]; exact x4⟩
  · intro q' i j a b a0 a1 i0 ij j1 e1 e2
    have hx : ∀ y, 0 ≤ y → y < m.1 153 0 q → ∀ a, m.1 152 0 (80 * q + y) = f a → (y < p → c.1 0 a 14 < tn) ∧ (p ≤ y → tn < c.1 0 a 14) := fun y y0 y1 a e => by
      obtain ⟨o1, o2, o3, o4⟩ := ho q y a q0 q1 y0 y1 e
      obtain ⟨_, _, t1, t2, _⟩ := h5 a q o2 o3 o4
      exact ord a y y0 y1 e t1 t2
    rcases nq q' i a0 a1 i0 (by omega) with ⟨n1, n2, n3⟩ | ⟨n0, n1, n2, n3⟩
    · have ea : a = id := hf.1 _ _ (e1.symm.trans n3)
      rcases nq q' j a0 a1 (by omega) j1 with ⟨o1, o2, o3⟩ | ⟨o0, o1, o2, o3⟩
      · omega
      · rw [o1] at e2
        have hb' := (ho q' _ b a0 a1 o3 o2 e2).1
        rw [k14, k14, if_pos ea, if_neg hb']
        rw [if_pos ⟨n1, by omega⟩] at e2 o2 o3
        rw [n1] at e2 o2
        exact (hx (j - 1) o3 o2 b e2).2 (by omega)
    · rw [n1] at e1
      have ha' := (ho q' _ a a0 a1 n3 n2 e1).1
      rcases nq q' j a0 a1 (by omega) j1 with ⟨o1, o2, o3⟩ | ⟨o0, o1, o2, o3⟩
      · have eb : b = id := hf.1 _ _ (e2.symm.trans o3)
        rw [k14, k14, if_neg ha', if_pos eb]
        rw [if_neg (by omega)] at e1 n2 n3
        rw [o1] at e1 n2
        exact (hx i n3 n2 a e1).1 (by omega)
      · rw [o1] at e2
        have hb' := (ho q' _ b a0 a1 o3 o2 e2).1
        rw [k14, k14, if_neg ha', if_neg hb']
        exact h4 q' _ _ a b a0 a1 n3 (by split <;> split <;> omega) o2 e1 e2
  · intro x q' x1 x2 x3
    by_cases hx : x = id
    · subst hx
      rw [k5, if_pos rfl] at x3
      cases x3
      refine ⟨q0, q1, by rw [k14, if_pos rfl]; omega, by rw [k14, if_pos rfl]; omega, p, p0, by rw [km3, if_pos rfl]; omega, by rw [km2 q p q0 q1 p0 (by omega), if_pos ⟨rfl, rfl⟩]⟩
    · have x1' := hlv2 x x1 hx
      rw [k9, if_neg hx] at x2
      rw [k5, if_neg hx] at x3
      obtain ⟨y1, y2, y3, y4, i, y5, y6, y7⟩ := h5 x q' x1' x2 x3
      have := hMx q' y1 y2
      rw [k14, if_neg hx]
      by_cases z : q' = q
      · subst z
        refine ⟨y1, y2, by omega, by omega, ?_⟩
        by_cases w : i < p
        · refine ⟨i, y5, ?_, ?_⟩
          · rw [km3, if_pos rfl]; omega
          · rw [km2 q' i y1 y2 y5 (by omega), if_neg (by omega), if_neg (by omega)]; exact y7
        · refine ⟨i + 1, by omega, ?_, ?_⟩
          · rw [km3, if_pos rfl]; omega
          · rw [km2 q' (i + 1) y1 y2 (by omega) (by omega), if_neg (by omega), if_pos (by omega), show i + 1 - 1 = i by omega]; exact y7
      · obtain ⟨g1, g2⟩ := k24 q' z
        refine ⟨y1, y2, by rw [g1]; exact y3, by rw [g2]; exact y4, i, y5, ?_, ?_⟩
        · rw [km3, if_neg z]; exact y6
        · rw [km2 q' i y1 y2 y5 (by omega), if_neg (fun w => z w.1), if_neg (fun w => z w.1)]; exact y7
  · intro x a b
    have := h6 x a b
    rw [b1]
    by_cases z : x = q
    · subst z; omega
    · obtain ⟨g1, g2⟩ := k24 x z
      rw [g1, g2]; omega
/-- a call enters a room -/
theorem rr_in (hf : f_ok f) (hr : r_r c m) {id e0 r0 : Int} (hi : 0 ≤ id ∧ id < 72) (hs : m.1 133 0 (f id) ≠ 3 ∧ m.1 133 0 (f id) ≠ -1) (k3 : ∀ j, m'.1 133 0 j = if j = f id then 3 else m.1 133 0 j) (k5 : ∀ j, m'.1 135 0 j = m.1 135 0 j) (h5 : m.1 135 0 (f id) = e0) (k7 : ∀ j, m'.1 137 0 j = if j = f id then 200 + r0 else m.1 137 0 j)
    (kr : ∀ e r, e = 0 ∨ e = 1 → r = 0 ∨ r = 1 → c'.1 23 e r = c.1 23 e r + (if e = e0 ∧ r = r0 then 1 else 0)) (k8 : c.1 23 e0 r0 < 8) (kv : c'.1 11 0 13 = c.1 11 0 13) : r_r c' m' := by
  have hfr := hf.2.2.1 id hi.1 (by omega)
  refine ⟨?_, ?_, fun e r he hr' => ?_⟩
  · intro e r he hr'
    have key : rc m' e r = rc m e r - (if decide (m.1 133 0 (f id) = 3 ∧ m.1 135 0 (f id) = e ∧ m.1 137 0 (f id) = 200 + r) then 1 else 0) + (if decide (m'.1 133 0 (f id) = 3 ∧ m'.1 135 0 (f id) = e ∧ m'.1 137 0 (f id) = 200 + r) then 1 else 0) := cn_up (p := fun s => decide (m.1 133 0 s = 3 ∧ m.1 135 0 s = e ∧ m.1 137 0 s = 200 + r)) (p' := fun s => decide (m'.1 133 0 s = 3 ∧ m'.1 135 0 s = e ∧ m'.1 137 0 s = 200 + r)) hfr.1 (by omega) (fun i a b d => by simp only [k3, k5, k7, if_neg d])
    rw [kr e r he hr', hr.1 e r he hr', key, k3, k5, k7, if_pos rfl, if_pos rfl, h5]
    have h3 := hs.1
    simp [h3]
    by_cases z : e = e0 ∧ r = r0
    · obtain ⟨rfl, rfl⟩ := z; simp
    · rw [if_neg z, if_neg (fun w => z ⟨w.1.symm, by omega⟩)]
  · have key : rv m' = rv m - (if decide (m.1 133 0 (f id) ≠ -1) then 1 else 0) + (if decide (m'.1 133 0 (f id) ≠ -1) then 1 else 0) := cn_up (p := fun s => decide (m.1 133 0 s ≠ -1)) (p' := fun s => decide (m'.1 133 0 s ≠ -1)) hfr.1 (by omega) (fun i a b d => by simp only [k3, if_neg d])
    have := hs.2
    rw [kv, hr.2.1, key, k3, if_pos rfl]
    simp [this]
  · have := hr.2.2 e r he hr'
    rw [kr e r he hr']
    by_cases z : e = e0 ∧ r = r0
    · obtain ⟨rfl, rfl⟩ := z; simp; omega
    · rw [if_neg z]; omega
/-- the reference counts a room's calls -/
theorem m_inRoom {m : JM} {e r : Int} (hr : r = 0 ∨ r = 1) : ∀ (d : Nat) (fu : Nat) (i : Nat), i + d = 80 → d < fu → F12_inRoom_5 fu e r (cn (fun s => decide (m.1 133 0 s = 3 ∧ m.1 135 0 s = e ∧ m.1 137 0 s = 200 + r)) i) (i : Int) m = some (rc m e r, m)
  | _, 0, _, _, h => by omega
  | d, fu + 1, i, hd, h => by
    show F12_inRoom_5b (F12_inRoom_5 fu) e r _ (i : Int) m = _
    unfold F12_inRoom_5b
    have hb := cn_b (fun s => decide (m.1 133 0 s = 3 ∧ m.1 135 0 s = e ∧ m.1 137 0 s = 200 + r)) i
    by_cases c1 : (80 : Int) ≤ (i : Int)
    · have : i = 80 := by omega
      subst this
      rw [if_pos (by simp)]; rfl
    · have w1 : w32 (200 + r) = 200 + r := w32_of (by omega) (by omega)
      have w2 : w32 ((i : Int) + 1) = ((i + 1 : Nat) : Int) := by rw [w32_of (by omega) (by omega)]; rfl
      have ih := m_inRoom (m := m) (e := e) hr (d - 1) fu (i + 1) (by omega) (by omega)
      rw [if_neg c1, g_t (by omega), g_t (by omega), g_t (by omega), w1]
      unfold F12_inRoom_54 F12_inRoom_55
      rw [lt_d, lt_d, w2, w32_of (by omega) (by omega), w32_of (by omega) (by omega)]
      have e1 : cn (fun s => decide (m.1 133 0 s = 3 ∧ m.1 135 0 s = e ∧ m.1 137 0 s = 200 + r)) (i + 1) = cn (fun s => decide (m.1 133 0 s = 3 ∧ m.1 135 0 s = e ∧ m.1 137 0 s = 200 + r)) i + (if decide (m.1 133 0 (i : Int) = 3 ∧ m.1 135 0 (i : Int) = e ∧ m.1 137 0 (i : Int) = 200 + r) = true then 1 else 0) := rfl
      rw [e1] at ih
      by_cases a1 : m.1 133 0 (i : Int) = 3 <;> by_cases a2 : m.1 135 0 (i : Int) = e <;> by_cases a3 : m.1 137 0 (i : Int) = 200 + r <;> simp [a1, a2, a3] at ih ⊢ <;> exact ih
theorem f_inRoom {m : JM} {e r : Int} (hr : r = 0 ∨ r = 1) : F12_inRoom e r m = some (rc m e r, m) := m_inRoom hr 80 j_fu 0 (by omega) (by unfold j_fu; omega)
end RQ
