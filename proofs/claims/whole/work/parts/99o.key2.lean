/-! ===== a tick looks at the lines ===== -/
theorem i2b_d : ∀ n : Nat, n < 128 → j_i2b (n : Int) = (n : Int) := by decide +kernel
theorem i2b_of {x : Int} (h0 : 0 ≤ x) (h1 : x < 128) : j_i2b x = x := by
  obtain ⟨n, rfl⟩ := Int.eq_ofNat_of_zero_le h0
  exact i2b_d n (by omega)
/-- loops and dialled keys -/
def r_d (c m : JM) : Prop := ∀ l, 0 ≤ l → l < 16 → (0 ≤ c.1 4 l 8 ∧ c.1 4 l 8 ≤ 39) ∧ (0 ≤ c.1 4 l 9 ∧ c.1 4 l 9 ≤ 20 ∧ (0 < c.1 4 l 10 → c.1 4 l 9 ≤ 19)) ∧ (0 ≤ c.1 4 l 4 ∧ c.1 4 l 4 ≤ 20) ∧ ∀ j, 0 ≤ j → j < c.1 4 l 4 → c.1 30 l j = m.1 117 0 (20 * l + j) ∧ 0 ≤ c.1 30 l j ∧ c.1 30 l j < 12
def w_lo (k : Nat) (j : Int) : Bool := (k == 4 && (j == 4 || j == 8 || j == 9 || j == 10)) || k == 30
def w_lom (k : Nat) (_ : Int) : Bool := decide (114 ≤ k) && decide (k ≤ 118)
section SI
variable {f : Int → Int} {N z1 z2 X : Int} {sec : Option Int} {Y zd : Int} {c m c' m' : JM} {B B' : Int} {H : HT}
theorem r_d_cg (hc : ∀ l j, (c'.1 4 l 4 = c.1 4 l 4 ∧ c'.1 4 l 8 = c.1 4 l 8 ∧ c'.1 4 l 9 = c.1 4 l 9 ∧ c'.1 4 l 10 = c.1 4 l 10) ∧ c'.1 30 l j = c.1 30 l j) (hm : ∀ j, m'.1 117 0 j = m.1 117 0 j) (D : r_d c m) : r_d c' m' := fun l a b => by
  have d := D l a b
  rw [(hc l 0).1.1, (hc l 0).1.2.1, (hc l 0).1.2.2.1, (hc l 0).1.2.2.2]
  refine ⟨d.1, d.2.1, d.2.2.1, fun j j0 j1 => ?_⟩
  rw [(hc l j).2, hm]
  exact d.2.2.2 j j0 j1
theorem r_d_so (sc : so w_D c c') (sm : so w_DM m m') (D : r_d c m) : r_d c' m' := r_d_cg (fun l j => ⟨⟨(sc 4 l 4 rfl).1, (sc 4 l 8 rfl).1, (sc 4 l 9 rfl).1, (sc 4 l 10 rfl).1⟩, (sc 30 l j rfl).1⟩) (fun j => (sm 117 0 j rfl).1) D
theorem w_j1 : ∀ k j, w_D k j = false → w_C k j = false := by
  intro k j h
  cases hh : w_C k j
  · rfl
  · unfold w_D at h; rw [hh] at h; simp at h
theorem w_j2 : ∀ k j, w_DM k j = false → w_M k j = false := by
  intro k j h
  cases hh : w_M k j
  · rfl
  · unfold w_DM at h; rw [hh] at h; simp at h
theorem w_j3 : ∀ k j, w_W k j = false → w_D k j = false := by intro k j; simp [w_W, w_D, w_C]; omega
theorem w_j4 : ∀ k j, w_V k j = false → w_DM k j = false := by intro k j; simp [w_V, w_DM, w_M]; omega
theorem w_j5 : ∀ k j, w_W k j = false → w_lo k j = false := by intro k j; simp [w_W, w_lo]; omega
theorem w_j6 : ∀ k j, w_V k j = false → w_lom k j = false := by intro k j; simp [w_V, w_lom]; omega
/-- a step in loops and dialled keys alone -/
theorem rel_lo (hf : f_ok f) (R : relN f N B H c m) (sc : so w_lo c c') (sm : so w_lom m m') (R2 : r_l (-1) c' m') : relN f N B H c' m' := by
  refine ⟨?_, R2, ?_, ?_, ?_, ?_, ?_, ?_, ?_, ?_⟩
  · exact r_k_cg (fun k n j q => by have := sc k n j (by simp [rkC] at q; simp [w_lo]; omega); exact ⟨this.1, this.2.2⟩) (fun k n j q => (sm k n j (by simp [rkM] at q; simp [w_lom]; omega)).1) R.1
  · exact r_h_cg (fun k n j q => sc k n j (by simp [rdC] at q; simp [w_lo]; omega)) (fun k n j q => (sm k n j (by simp [rdM] at q; simp [w_lom]; omega)).1) R.2.2.1
  · exact fun e he => r_m_cg (fun k n j q => by rcases q with rfl | rfl <;> exact ⟨(sc _ n j rfl).1, (sc _ n j rfl).2.1⟩) (fun k n j a b => (sm k n j (by simp [w_lom]; omega)).1) (R.2.2.2.1 e he)
  · exact q_cg R.2.2.2.2.1 (fun n => by rw [(sc 0 n 9 rfl).1, (sc 0 n 5 rfl).2.2, (sc 0 n 14 rfl).1]; exact ⟨Iff.rfl, fun _ => ⟨rfl, rfl⟩⟩) hf (fun n j => (sc 2 n j rfl).1) (fun n j => (sc 25 n j rfl).2.2) (fun k j a b => (sm k 0 j (by simp [w_lom]; omega)).1)
  · exact rr_cg R.2.2.2.2.2.1 (fun s _ _ => by rw [(sm 133 0 s rfl).1, (sm 135 0 s rfl).1, (sm 137 0 s rfl).1]; exact ⟨Iff.rfl, fun _ _ _ _ => Iff.rfl⟩) (fun e r => (sc 23 e r rfl).1) (sc 11 0 13 rfl).1
  · exact a_cg R.2.2.2.2.2.2.1 (fun n => by rw [(sc 0 n 9 rfl).1]) (fun j => (sc 40 0 j rfl).2.2) (sc 11 0 11 rfl).1 (sc 11 0 12 rfl).1 (fun j => (sm 134 0 j rfl).1) (sm 12 0 32 rfl).1
  · exact g_cg R.2.2.2.2.2.2.2.1 (fun j => (sc 26 0 j rfl).1) (fun j => (sc 27 0 j rfl).1) (sc 3 0 2 rfl).1 (fun k j a b => (sm k 0 j (by simp [w_lom]; omega)).1) (sm 12 0 90 rfl).1
  · exact r_p_cg (fun k n j q => sc k n j (by simp [rpC] at q; simp [w_lo]; omega)) (fun k n j q => (sm k n j (by simp [rpM] at q; simp [w_lom]; omega)).1) R.2.2.2.2.2.2.2.2.1
  · exact r_f_cg (fun k n j q => sc k n j (by simp [rpC] at q; simp [w_lo]; omega)) (fun k n j q => (sm k n j (by simp [rpM] at q; simp [w_lom]; omega)).1) R.2.2.2.2.2.2.2.2.2
/-- keys that wait move up -/
theorem f_mv97 {l x n : Int} (hn : n ≤ 19) : ∀ (d : Nat) (fu : Nat) (i : Int) (h : JM), 0 ≤ i → i + d = n → d < fu → h.1 4 l 4 = n → (∀ j, i < j → j ≤ n → 0 ≤ h.1 30 l j ∧ h.1 30 l j < 12) →
    ∃ h', F4_keyOfThisTick_97 fu l x i h = some (x, h') ∧ h'.2 = h.2 ∧ ∀ k n' j, h'.1 k n' j = if k = 30 ∧ n' = l ∧ i ≤ j ∧ j < n then h.1 30 l (j + 1) else h.1 k n' j
  | _, 0, _, _, _, _, q, _, _ => by omega
  | 0, fu + 1, i, h, i0, e, _, h4, _ => by
    refine ⟨h, ?_, rfl, fun k n' j => by rw [if_neg (by omega)]⟩
    show F4_keyOfThisTick_97b (F4_keyOfThisTick_97 fu) l x i h = _
    unfold F4_keyOfThisTick_97b
    rw [if_pos (by omega)]
  | d + 1, fu + 1, i, h, i0, e, q, h4, hb => by
    have w1 : w32 (i + 1) = i + 1 := w32_of (by omega) (by omega)
    have b := hb (i + 1) (by omega) (by omega)
    obtain ⟨h', y1, y2, y3⟩ := f_mv97 (l := l) (x := x) hn d fu (i + 1) (sI h 30 l i (h.1 30 l (i + 1))) (by omega) (by omega) (by omega) (by rw [rI_o (by omega)]; exact h4) (fun j a b => by rw [rI_o (by omega)]; exact hb j (by omega) b)
    refine ⟨h', ?_, y2, fun k n' j => ?_⟩
    · show F4_keyOfThisTick_97b (F4_keyOfThisTick_97 fu) l x i h = _
      unfold F4_keyOfThisTick_97b
      rw [if_neg (by omega), w1, g_t (by omega), g_t (by omega), lt_d, i2b_of b.1 (by omega)]
      exact y1
    · rw [y3]
      by_cases z : k = 30 ∧ n' = l
      · obtain ⟨rfl, rfl⟩ := z
        by_cases z2 : j = i
        · subst z2; rw [if_neg (by omega), rI_s, if_pos (by omega)]
        · by_cases z3 : i + 1 ≤ j ∧ j < n
          · rw [if_pos (by omega), rI_o (by omega), if_pos (by omega)]
          · rw [if_neg (by omega), rI_o (by omega), if_neg (by omega)]
      · rw [if_neg (by omega), rI_o (by omega), if_neg (by omega)]
theorem m_mv219 {l x n : Int} (hl : 0 ≤ l ∧ l < 16) (hn : n ≤ 19) : ∀ (d : Nat) (fu : Nat) (i : Int) (h : JM), 0 ≤ i → i + d = n → d < fu → h.1 118 0 l = n →
    ∃ h', F12_looks_219 fu l x i h = (F12_keyComes l x h').bind (fun q => some q) ∧ h'.2 = h.2 ∧ ∀ k n' j, h'.1 k n' j = if k = 117 ∧ n' = 0 ∧ 20 * l + i ≤ j ∧ j < 20 * l + n then h.1 117 0 (j + 1) else h.1 k n' j
  | _, 0, _, _, _, _, q, _ => by omega
  | 0, fu + 1, i, h, i0, e, _, h4 => by
    refine ⟨h, ?_, rfl, fun k n' j => by rw [if_neg (by omega)]⟩
    show F12_looks_219b (F12_looks_219 fu) l x i h = _
    unfold F12_looks_219b
    rw [g_t hl, if_pos (by omega)]
  | d + 1, fu + 1, i, h, i0, e, q, h4 => by
    have w1 : w32 (i + 1) = i + 1 := w32_of (by omega) (by omega)
    have w2 : w32 (20 * l) = 20 * l := w32_of (by omega) (by omega)
    have w3 : w32 (20 * l + i) = 20 * l + i := w32_of (by omega) (by omega)
    have w4 : w32 (20 * l + i + 1) = 20 * l + i + 1 := w32_of (by omega) (by omega)
    obtain ⟨h', y1, y2, y3⟩ := m_mv219 (l := l) (x := x) hl hn d fu (i + 1) (sI h 117 0 (20 * l + i) (h.1 117 0 (20 * l + i + 1))) (by omega) (by omega) (by omega) (by rw [rI_o (by omega)]; exact h4)
    refine ⟨h', ?_, y2, fun k n' j => ?_⟩
    · show F12_looks_219b (F12_looks_219 fu) l x i h = _
      unfold F12_looks_219b
      rw [g_t hl, if_neg (by omega), w2, w3, w4, w1, g_t (by omega), g_t (by omega), lt_d]
      exact y1
    · rw [y3]
      by_cases z : k = 117 ∧ n' = 0
      · obtain ⟨rfl, rfl⟩ := z
        by_cases z2 : j = 20 * l + i
        · subst z2; rw [if_neg (by omega), rI_s, if_pos (by omega)]
        · by_cases z3 : 20 * l + (i + 1) ≤ j ∧ j < 20 * l + n
          · rw [if_pos (by omega), rI_o (by omega), if_pos (by omega)]
          · rw [if_neg (by omega), rI_o (by omega), if_neg (by omega)]
      · rw [if_neg (by omega), rI_o (by omega), if_neg (by omega)]
/-- the key of this tick -/
theorem p_k56 (hf : f_ok f) (hB : B + 60 < 2000000000) {l : Int} (hl : 0 ≤ l ∧ l < 16) (h6 : c.1 4 l 6 ≠ 0) (h5 : c.1 4 l 5 ≠ 0) (R : relN f N B H c m) (D : r_d c m) :
    ∃ c' m', (∀ k2 i, F11_watchLines_56 k2 i (some l) c = k2 (w32 (i + 1)) c') ∧ F12_looks_126 l m = some m' ∧ relN f N (B + 6) H c' m' ∧ r_d c' m' ∧ so w_W c c' ∧ so w_V m m' := by
  obtain ⟨g1, g2, g3, g4, g5, g6, _⟩ := R.2.1 l
  obtain ⟨d1, d2, d3, d4⟩ := D l hl.1 hl.2
  by_cases z : c.1 4 l 10 ≤ 0
  · by_cases z2 : c.1 4 l 4 = 0
    · refine ⟨c, m, fun k2 i => ?_, ?_, rel_mono (by omega) R, D, so_rfl c, so_rfl m⟩
      · unfold F11_watchLines_56 F4_keyOfThisTick
        rw [Option.bind_some, if_neg h6, if_neg h5, if_pos z, if_pos z2, Option.bind_some, if_pos rfl]
        rfl
      · unfold F12_looks_126
        simp only [g_t hl]
        rw [if_pos (by omega), if_pos (by omega)]
    · have w1 : w32 (c.1 4 l 4 - 1) = c.1 4 l 4 - 1 := w32_of (by omega) (by omega)
      have w2 : w32 (20 * l) = 20 * l := w32_of (by omega) (by omega)
      have k0 := d4 0 (by omega) (by omega)
      rw [Int.add_zero] at k0
      obtain ⟨c1, x1, x2, x3⟩ := f_mv97 (l := l) (x := c.1 30 l 0) (n := c.1 4 l 4 - 1) (by omega) (c.1 4 l 4 - 1).toNat j_fu 0 (sI c 4 l 4 (c.1 4 l 4 - 1)) (by omega) (by omega) (by unfold j_fu; omega) (by rw [rI_s]) (fun j a b => by rw [rI_o (by omega)]; exact (d4 j (by omega) (by omega)).2)
      obtain ⟨m1, y1, y2, y3⟩ := m_mv219 (l := l) (x := c.1 30 l 0) (n := c.1 4 l 4 - 1) hl (by omega) (c.1 4 l 4 - 1).toNat j_fu 0 (sI m 118 0 l (c.1 4 l 4 - 1)) (by omega) (by omega) (by unfold j_fu; omega) (by rw [rI_s])
      have cI : ∀ k n j, c1.1 k n j = if k = 30 ∧ n = l ∧ 0 ≤ j ∧ j < c.1 4 l 4 - 1 then c.1 30 l (j + 1) else if k = 4 ∧ n = l ∧ j = 4 then c.1 4 l 4 - 1 else c.1 k n j := fun k n j => by
        rw [x3]
        by_cases q : k = 30 ∧ n = l ∧ 0 ≤ j ∧ j < c.1 4 l 4 - 1
        · rw [if_pos q, if_pos q, rI_o (by omega)]
        · rw [if_neg q, if_neg q, rI_I]
      have mI : ∀ k n j, m1.1 k n j = if k = 117 ∧ n = 0 ∧ 20 * l ≤ j ∧ j < 20 * l + (c.1 4 l 4 - 1) then m.1 117 0 (j + 1) else if k = 118 ∧ n = 0 ∧ j = l then c.1 4 l 4 - 1 else m.1 k n j := fun k n j => by
        rw [y3]
        by_cases q : k = 117 ∧ n = 0 ∧ 20 * l ≤ j ∧ j < 20 * l + (c.1 4 l 4 - 1)
        · rw [if_pos (by omega), if_pos q, rI_o (by omega)]
        · rw [if_neg (by omega), if_neg q, rI_I]
      have sc : so w_lo c c1 := fun k n j q => by
        refine ⟨?_, by rw [x2]; rfl, by rw [x2]; rfl⟩
        simp [w_lo] at q
        rw [cI, if_neg (by omega), if_neg (by omega)]
      have sm : so w_lom m m1 := fun k n j q => by
        refine ⟨?_, by rw [y2]; rfl, by rw [y2]; rfl⟩
        simp [w_lom] at q
        rw [mI, if_neg (by omega), if_neg (by omega)]
      have R1 : relN f N B H c1 m1 := rel_lo hf R sc sm (fun x => by
        have g := R.2.1 x
        simp only [cI, mI]
        obtain ⟨g1, g2, g3, g4, g5, g6, g7, g8, g9, g10, g11, g12, g13⟩ := g
        clear R d4 D x1 y1
        refine ⟨?_, ?_, ?_, ?_, ?_, ?_, ?_, ?_, ?_, ?_, ?_, ?_, ?_⟩
        all_goals grind)
      have D1 : r_d c1 m1 := fun x a b => by
        obtain ⟨e1, e2, e3, e4⟩ := D x a b
        by_cases y : x = l
        · subst y
          have q4 : c1.1 4 x 4 = c.1 4 x 4 - 1 := by rw [cI, if_neg (by omega), if_pos ⟨rfl, rfl, rfl⟩]
          have q8 : c1.1 4 x 8 = c.1 4 x 8 := by rw [cI, if_neg (by omega), if_neg (by omega)]
          have q9 : c1.1 4 x 9 = c.1 4 x 9 := by rw [cI, if_neg (by omega), if_neg (by omega)]
          have q10 : c1.1 4 x 10 = c.1 4 x 10 := by rw [cI, if_neg (by omega), if_neg (by omega)]
          rw [q4, q8, q9, q10]
          refine ⟨e1, e2, by omega, fun j j0 j1 => ?_⟩
          rw [cI, if_pos (by omega), mI, if_pos (by omega)]
          have := e4 (j + 1) (by omega) (by omega)
          rw [show 20 * x + j + 1 = 20 * x + (j + 1) by omega]
          exact this
        · have q4 : c1.1 4 x 4 = c.1 4 x 4 := by rw [cI, if_neg (by omega), if_neg (by omega)]
          have q8 : c1.1 4 x 8 = c.1 4 x 8 := by rw [cI, if_neg (by omega), if_neg (by omega)]
          have q9 : c1.1 4 x 9 = c.1 4 x 9 := by rw [cI, if_neg (by omega), if_neg (by omega)]
          have q10 : c1.1 4 x 10 = c.1 4 x 10 := by rw [cI, if_neg (by omega), if_neg (by omega)]
          rw [q4, q8, q9, q10]
          refine ⟨e1, e2, e3, fun j j0 j1 => ?_⟩
          rw [cI, if_neg (by omega), if_neg (by omega), mI, if_neg (by omega), if_neg (by omega)]
          exact e4 j j0 j1
      obtain ⟨c', m', p1, p2, p3, p4, p5⟩ := p_key hf (by omega) hl k0.2 R1
      refine ⟨c', m', fun k2 i => ?_, ?_, p3, ?_, ?_, ?_⟩
      · unfold F11_watchLines_56 F4_keyOfThisTick
        rw [Option.bind_some, if_neg h6, if_neg h5, if_pos z, if_neg z2, g_t (by omega), w1]
        simp only [lt_d]
        rw [x1, Option.bind_some]
        dsimp only
        rw [if_neg (by omega), p1, Option.bind_some]
        rfl
      · unfold F12_looks_126
        simp only [g_t hl, lt_d]
        rw [if_pos (by omega), if_neg (by omega), w2, g_t (by omega), ← k0.1, g6, w1, y1, p2, Option.bind_some]
      · exact r_d_cg (fun x j => ⟨⟨(p4 4 x 4 rfl).1, (p4 4 x 8 rfl).1, (p4 4 x 9 rfl).1, (p4 4 x 10 rfl).1⟩, (p4 30 x j rfl).1⟩) (fun j => (p5 117 0 j rfl).1) D1
      · exact so_tr (so_mono w_j5 sc) (so_mono w_h3 p4)
      · exact so_tr (so_mono w_j6 sm) (so_mono w_h4 p5)
  · have w1 : w32 (c.1 4 l 9 + 1) = c.1 4 l 9 + 1 := w32_of (by omega) (by omega)
    have key : ∀ v w, 0 ≤ v → v ≤ 20 → (0 < w → v ≤ 19) → relN f N B H (sI (sI c 4 l 9 v) 4 l 10 w) (sI (sI m 116 0 l v) 115 0 l w) ∧ r_d (sI (sI c 4 l 9 v) 4 l 10 w) (sI (sI m 116 0 l v) 115 0 l w) := fun v w v0 v1 vw => by
      refine ⟨rel_lo hf R (so_I (so_I (so_rfl c) rfl _ _) rfl _ _) (so_I (so_I (so_rfl m) rfl _ _) rfl _ _) (fun x => ?_), fun x a b => ?_⟩
      · have g := R.2.1 x
        simp only [rI_I]
        obtain ⟨g1, g2, g3, g4, g5, g6, g7, g8, g9, g10, g11, g12, g13⟩ := g
        clear R d4 D
        refine ⟨?_, ?_, ?_, ?_, ?_, ?_, ?_, ?_, ?_, ?_, ?_, ?_, ?_⟩
        all_goals grind
      · obtain ⟨e1, e2, e3, e4⟩ := D x a b
        rw [rI_o (j' := 8) (by omega), rI_o (j' := 8) (by omega), rI_o (j' := 4) (by omega), rI_o (j' := 4) (by omega), rI_o (j' := 9) (by omega)]
        refine ⟨e1, ?_, e3, fun j j0 j1 => ?_⟩
        · by_cases y : x = l
          · subst y; rw [rI_s, rI_s]; exact ⟨v0, v1, vw⟩
          · rw [rI_o (by omega), rI_o (by omega), rI_o (by omega)]; exact e2
        · rw [rI_o (by omega), rI_o (by omega), rI_o (by omega), rI_o (by omega)]; exact e4 j j0 j1
    have id10 : ∀ v, sI (sI c 4 l 9 v) 4 l 10 (c.1 4 l 10) = sI c 4 l 9 v := fun v => by
      have := idemI (sI c 4 l 9 v) 4 l 10
      rw [rI_o (by omega)] at this
      exact this
    have id115 : ∀ v, sI (sI m 116 0 l v) 115 0 l (c.1 4 l 10) = sI m 116 0 l v := fun v => by
      have := idemI (sI m 116 0 l v) 115 0 l
      rw [rI_o (by omega), g4] at this
      exact this
    have scW : ∀ v w, so w_W c (sI (sI c 4 l 9 v) 4 l 10 w) := fun v w => so_I (so_I (so_rfl c) rfl _ _) rfl _ _
    have smV : ∀ v w, so w_V m (sI (sI m 116 0 l v) 115 0 l w) := fun v w => so_I (so_I (so_rfl m) rfl _ _) rfl _ _
    have d29 := d2.2.2 (by omega)
    by_cases z2 : c.1 4 l 9 + 1 = 20
    · by_cases z3 : 10 < c.1 4 l 10
      · have K := key 20 0 (by omega) (by omega) (by omega)
        refine ⟨_, _, fun k2 i => ?_, ?_, rel_mono (by omega) K.1, K.2, scW _ _, smV _ _⟩
        · unfold F11_watchLines_56 F4_keyOfThisTick
          rw [Option.bind_some, if_neg h6, if_neg h5, if_neg z, w1, z2]
          simp only [lt_d, rI_s]
          rw [if_pos (by omega), rI_o (by omega), if_pos z3, Option.bind_some, if_pos rfl]
          rfl
        · unfold F12_looks_126
          simp only [g_t hl, lt_d]
          rw [if_neg (by omega), g5, w1, z2, rI_s, if_pos rfl, rI_o (by omega), g4, if_pos z3]
      · have K := key 20 0 (by omega) (by omega) (by omega)
        have er : j_rem (c.1 4 l 10) 10 = c.1 4 l 10 % 10 := i_rem (by omega) (by omega) (by decide) (by decide)
        obtain ⟨c', m', p1, p2, p3, p4, p5⟩ := p_key (k := c.1 4 l 10 % 10) hf (by omega) hl (by omega) K.1
        refine ⟨c', m', fun k2 i => ?_, ?_, p3, r_d_cg (fun x j => ⟨⟨(p4 4 x 4 rfl).1, (p4 4 x 8 rfl).1, (p4 4 x 9 rfl).1, (p4 4 x 10 rfl).1⟩, (p4 30 x j rfl).1⟩) (fun j => (p5 117 0 j rfl).1) K.2, so_tr (scW _ _) (so_mono w_h3 p4), so_tr (smV _ _) (so_mono w_h4 p5)⟩
        · unfold F11_watchLines_56 F4_keyOfThisTick
          rw [Option.bind_some, if_neg h6, if_neg h5, if_neg z, w1, z2]
          simp only [lt_d, rI_s]
          rw [if_pos (by omega), rI_o (by omega), if_neg z3, er, Option.bind_some]
          dsimp only
          rw [if_neg (by omega), p1, Option.bind_some]
          rfl
        · unfold F12_looks_126
          simp only [g_t hl, lt_d]
          rw [if_neg (by omega), g5, w1, z2, rI_s, if_pos rfl, rI_o (by omega), g4, if_neg z3, er, p2, Option.bind_some]
    · have K := key (c.1 4 l 9 + 1) (c.1 4 l 10) (by omega) (by omega) (by omega)
      have s1 := scW (c.1 4 l 9 + 1) (c.1 4 l 10)
      have s2 := smV (c.1 4 l 9 + 1) (c.1 4 l 10)
      rw [id10, id115] at K
      rw [id10] at s1
      rw [id115] at s2
      refine ⟨_, _, fun k2 i => ?_, ?_, rel_mono (by omega) K.1, K.2, s1, s2⟩
      · unfold F11_watchLines_56 F4_keyOfThisTick
        rw [Option.bind_some, if_neg h6, if_neg h5, if_neg z, w1]
        simp only [lt_d, rI_s]
        rw [if_neg (by omega), Option.bind_some, if_pos rfl]
        rfl
      · unfold F12_looks_126
        simp only [g_t hl, lt_d]
        rw [if_neg (by omega), g5, w1, rI_s, if_neg (by omega)]
end SI
