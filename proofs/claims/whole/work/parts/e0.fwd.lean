/-! ===== setting: forwards, members ===== -/
section RN
variable {f : Int → Int} {N : Int} {c m c' m' : JM} {B : Int}
theorem m_fw31 {p n : Int} (hp : 0 ≤ p ∧ p < 48) (hn : 0 ≤ n ∧ n ≤ 12) : ∀ (d : Nat) (fu : Nat) (i : Int) (h : JM), 0 ≤ i → i + d = n → d < fu → h.1 12 0 4 = n →
    ∃ h', F12_forward_31 fu p i h = F12_forward_31b (fun _ _ _ => none) p n h' ∧ h'.2 = h.2 ∧ ∀ k n' j, h'.1 k n' j = if k = 128 ∧ n' = 0 ∧ 12 * p + i ≤ j ∧ j < 12 * p + n then h.1 103 0 (j - 12 * p) else h.1 k n' j
  | _, 0, _, _, _, _, q, _ => by omega
  | 0, fu + 1, i, h, i0, e, _, h3 => by
    refine ⟨h, ?_, rfl, fun k n' j => by rw [if_neg (by omega)]⟩
    show F12_forward_31b (F12_forward_31 fu) p i h = _
    rw [show i = n by omega]
    unfold F12_forward_31b
    rw [if_pos (by omega), if_pos (by omega)]
  | d + 1, fu + 1, i, h, i0, e, q, h3 => by
    have w1 : w32 (i + 1) = i + 1 := w32_of (by omega) (by omega)
    have w2 : w32 (12 * p) = 12 * p := w32_of (by omega) (by omega)
    have w3 : w32 (12 * p + i) = 12 * p + i := w32_of (by omega) (by omega)
    obtain ⟨h', y1, y2, y3⟩ := m_fw31 hp hn d fu (i + 1) (sI h 128 0 (12 * p + i) (h.1 103 0 i)) (by omega) (by omega) (by omega) (by rw [rI_o (by omega)]; exact h3)
    refine ⟨h', ?_, y2, fun k n' j => ?_⟩
    · show F12_forward_31b (F12_forward_31 fu) p i h = _
      rw [← y1]
      conv => lhs; unfold F12_forward_31b
      rw [if_neg (by omega), w2, w3, w1, g_t (by omega), g_t (by omega), lt_d]
    · rw [y3]
      by_cases z : k = 128 ∧ n' = 0
      · obtain ⟨rfl, rfl⟩ := z
        by_cases z2 : j = 12 * p + i
        · subst z2; rw [if_neg (by omega), rI_s, if_pos (by omega)]; exact cgI _ _ _ (by omega)
        · by_cases z3 : 12 * p + (i + 1) ≤ j ∧ j < 12 * p + n
          · rw [if_pos (by omega), rI_o (by omega), if_pos (by omega)]
          · rw [if_neg (by omega), rI_o (by omega), if_neg (by omega)]
      · rw [if_neg (by omega), rI_o (by omega), if_neg (by omega)]
theorem a_forward (hf : f_ok f) (R : r_x f N B c m) (l w : Int) : ∃ v c' m', F11_forward l w c = some (v, c') ∧ F12_forward l w m = some (v, m') ∧ r_y f N B c m c' m' := by
  unfold F11_forward F11_forward_16 F12_forward F12_forward_19
  rw [f_isL, m_isL2, Option.bind_some, Option.bind_some]
  dsimp only
  by_cases h1 : 0 ≤ l ∧ l ≤ 15
  · rw [if_pos (c := 0 ≤ l ∧ l ≤ 15) h1, if_neg (show ¬ (1 : Int) = 0 by decide), if_neg (show ¬ (1 : Int) = 0 by decide)]
    rw [f_within, m_in, Option.bind_some, Option.bind_some]
    dsimp only
    by_cases h2 : 0 ≤ w ∧ w ≤ 2
    · rw [if_pos (c := 0 ≤ w ∧ w ≤ 2) h2, if_neg (show ¬ (1 : Int) = 0 by decide), if_neg (show ¬ (1 : Int) = 0 by decide)]
      have g : 0 ≤ l ∧ l < 16 := by omega
      have g2 : 0 ≤ w ∧ w < 3 := by omega
      have w3 : w32 (w32 (3 * l) + w) = 3 * l + w := by rw [w32_of (x := 3 * l) (by omega) (by omega), w32_of (by omega) (by omega)]
      obtain ⟨K, hK, e1, e2, e3⟩ := R.2.1
      replace e3 : ∀ j : Nat, j < K.length → m.1 103 0 (j : Int) = (K.getD j 0 : Int) := e3
      have hl := hK.1
      have hp : 0 ≤ 3 * l + w ∧ 3 * l + w < 48 := by omega
      obtain ⟨h', y1, y2, y3⟩ := m_fw31 (p := 3 * l + w) (n := (K.length : Int)) hp (by omega) K.length j_fu 0 m (by omega) (by omega) (by unfold j_fu; omega) e2
      have e4 : h'.1 12 0 4 = (K.length : Int) := by rw [y3, if_neg (fun z => absurd z.1 (by decide)), e2]
      rw [g_t g, g_t g2, lt_d, lt_d, w3, lt_d, y1]
      unfold F12_forward_31b
      rw [e4, if_pos (Int.le_refl _), g_t hp, lt_d, lt_d]
      have F := R.1.1.2.2.2.2.2.2.2.2.2
      have sc : so w_fo c (sL (sL c 29 l w (c.2.1 11 0 9)) 11 0 9 0) := so_L (so_L (so_rfl c) rfl _ _) rfl _ _
      have s0 : so w_fom m h' := fun k n j q => ⟨by
        rw [y3, if_neg (fun z => by rw [z.1] at q; cases q)], by rw [y2], by rw [y2]⟩
      have sm : so w_fom m (sI (sI h' 129 0 (3 * l + w) (K.length : Int)) 12 0 4 0) := so_I (so_I s0 rfl _ _) rfl _ _
      refine ⟨_, _, _, rfl, rfl, x_fo hf R sc sm (fun l' w' a b d e => ?_) ⟨[], ⟨by simp, fun _ q => by cases q⟩, ?_, ?_, fun j hj => absurd hj (by simp)⟩⟩
      · have q := F l' w' a b d e
        have q7 : (sI (sI h' 129 0 (3 * l + w) (K.length : Int)) 12 0 4 0).1 127 0 (3 * l' + w') = m.1 127 0 (3 * l' + w') := by rw [rI_o (Or.inl (by decide)), rI_o (Or.inl (by decide)), y3, if_neg (fun z => absurd z.1 (by decide))]
        have q8 : ∀ j, (sI (sI h' 129 0 (3 * l + w) (K.length : Int)) 12 0 4 0).1 128 0 j = h'.1 128 0 j := fun j => by rw [rI_o (Or.inl (by decide)), rI_o (Or.inl (by decide))]
        have q9 : ∀ j, j ≠ 3 * l + w → (sI (sI h' 129 0 (3 * l + w) (K.length : Int)) 12 0 4 0).1 129 0 j = m.1 129 0 j := fun j hj => by rw [rI_o (Or.inl (by decide)), rI_o (Or.inr (Or.inr hj)), y3, if_neg (fun z => absurd z.1 (by decide))]
        rw [q7]
        refine ⟨q.1, q.2.1, ?_⟩
        by_cases z : l' = l ∧ w' = w
        · obtain ⟨z1, z2⟩ := z
          subst z1; subst z2
          refine ⟨K, hK, ?_, ?_, fun j hj => ?_⟩
          · rw [← e1, rL_o (Or.inl (by decide)), rL_s]
          · rw [rI_o (Or.inl (by decide)), rI_s]
          · dsimp only; rw [q8, y3, if_pos ⟨rfl, rfl, by omega, by omega⟩, ← e3 j hj]
            exact cgI _ _ _ (by omega)
        · rw [q9 _ (by omega)]
          have e5 : (sL (sL c 29 l w (c.2.1 11 0 9)) 11 0 9 0).2.1 29 l' w' = c.2.1 29 l' w' := by
            rw [rL_o (Or.inl (by decide)), rL_o (by omega)]
          rw [e5]
          obtain ⟨K', a1, a2, a3, a4⟩ := q.2.2
          have hl' := a1.1
          exact ⟨K', a1, a2, a3, fun j hj => by dsimp only; rw [q8, y3, if_neg (by omega)]; exact a4 j hj⟩
      · rw [rL_s]; rfl
      · rw [rI_s]; rfl
    · rw [if_neg (c := 0 ≤ w ∧ w ≤ 2) h2, if_pos (show (0 : Int) = 0 from rfl), if_pos (show (0 : Int) = 0 from rfl)]
      exact ⟨_, c, m, rfl, rfl, r_y0 R⟩
  · rw [if_neg (c := 0 ≤ l ∧ l ≤ 15) h1, if_pos (show (0 : Int) = 0 from rfl), if_pos (show (0 : Int) = 0 from rfl)]
    exact ⟨_, c, m, rfl, rfl, r_y0 R⟩
theorem p_has {q l n : Int} (hq : 0 ≤ q ∧ q < 6) (hn : 0 ≤ n ∧ n ≤ 8) (c1 : c.1 2 q 1 = n) (m1 : m.1 150 0 q = n) (h25 : ∀ i, 0 ≤ i → i < n → c.2.2 25 q i = some (m.1 149 0 (8 * q + i))) : ∀ (d fu fu2 : Nat) (i : Int), 0 ≤ i → i + d = n → d < fu → d < fu2 →
    (F2_has_2 fu q (some l) i c = some (1, c) ∧ F12_member_34 fu2 l q i m = some (-2, m)) ∨ (F2_has_2 fu q (some l) i c = some (0, c) ∧ (∀ j, i ≤ j → j < n → m.1 149 0 (8 * q + j) ≠ l) ∧ F12_member_34 fu2 l q i m = F12_member_34b (fun _ _ _ _ => none) l q n m)
  | _, 0, _, _, _, _, q, _ => by omega
  | _, _, 0, _, _, _, _, q => by omega
  | 0, fu + 1, fu2 + 1, i, i0, e, _, _ => by
    refine Or.inr ⟨?_, fun j a b => by omega, ?_⟩
    · show F2_has_2b (F2_has_2 fu) q (some l) i c = _
      unfold F2_has_2b
      rw [if_pos (by omega)]
    · show F12_member_34b (F12_member_34 fu2) l q i m = _
      rw [show i = n by omega]
      unfold F12_member_34b
      rw [m1, if_pos (Int.le_refl _), if_pos (Int.le_refl _)]
  | d + 1, fu + 1, fu2 + 1, i, i0, e, a, b => by
    have w1 : w32 (i + 1) = i + 1 := w32_of (by omega) (by omega)
    have w3 : w32 (w32 (8 * q) + i) = 8 * q + i := by rw [w32_of (x := 8 * q) (by omega) (by omega), w32_of (by omega) (by omega)]
    have s1 : F2_has_2 (fu + 1) q (some l) i c = if m.1 149 0 (8 * q + i) = l then some (1, c) else F2_has_2 fu q (some l) (i + 1) c := by
      show F2_has_2b (F2_has_2 fu) q (some l) i c = _
      unfold F2_has_2b
      rw [if_neg (by omega), g_t (by omega), h25 i i0 (by omega), w1]
      by_cases z : m.1 149 0 (8 * q + i) = l
      · rw [if_pos (by rw [z]), if_pos z]
      · rw [if_neg (fun y => z (Option.some.inj y)), if_neg z]
    have s2 : F12_member_34 (fu2 + 1) l q i m = if m.1 149 0 (8 * q + i) = l then some (-2, m) else F12_member_34 fu2 l q (i + 1) m := by
      show F12_member_34b (F12_member_34 fu2) l q i m = _
      unfold F12_member_34b
      rw [g_t hq, if_neg (by omega), w3, w1, g_t (by omega)]
    rw [s1, s2]
    by_cases z : m.1 149 0 (8 * q + i) = l
    · rw [if_pos z, if_pos z]; exact Or.inl ⟨rfl, rfl⟩
    · rw [if_neg z, if_neg z]
      rcases p_has hq hn c1 m1 h25 d fu fu2 (i + 1) (by omega) (by omega) (by omega) (by omega) with y | ⟨y1, y2, y3⟩
      · exact Or.inl y
      · refine Or.inr ⟨y1, fun j a b => ?_, y3⟩
        by_cases t : j = i
        · rw [t]; exact z
        · exact y2 j (by omega) b
theorem all8 {q l : Int} (hl : 8 * (q / 3) ≤ l ∧ l < 8 * (q / 3) + 8) (hr : ∀ i, 0 ≤ i → i < 8 → 8 * (q / 3) ≤ m.1 149 0 (8 * q + i) ∧ m.1 149 0 (8 * q + i) < 8 * (q / 3) + 8) (hd : ∀ i j, 0 ≤ i → i < 8 → 0 ≤ j → j < 8 → m.1 149 0 (8 * q + i) = m.1 149 0 (8 * q + j) → i = j) (hno : ∀ j, 0 ≤ j → j < 8 → m.1 149 0 (8 * q + j) ≠ l) : False := by
  have := pg_1 8 9 (fun i => if i < 8 then m.1 149 0 (8 * q + (i : Int)) - 8 * (q / 3) else l - 8 * (q / 3)) (fun i hi => by
    by_cases z : i < 8
    · rw [if_pos z]; have := hr (i : Int) (by omega) (by omega); omega
    · rw [if_neg z]; omega) (fun i j hi hj e => by
    by_cases z : i < 8
    · by_cases y : j < 8
      · rw [if_pos z, if_pos y] at e
        have := hd (i : Int) (j : Int) (by omega) (by omega) (by omega) (by omega) (by omega)
        omega
      · rw [if_pos z, if_neg y] at e
        exact absurd (by omega) (hno (i : Int) (by omega) (by omega))
    · by_cases y : j < 8
      · rw [if_neg z, if_pos y] at e
        exact absurd (by omega) (hno (j : Int) (by omega) (by omega))
      · omega)
  omega
theorem a_member (hf : f_ok f) (R : r_x f N B c m) (g l : Int) : ∃ v c' m', F11_member g l c = some (v, c') ∧ F12_member g l m = some (v, m') ∧ r_y f N B c m c' m' := by
  unfold F11_member F11_member_16 F11_member_56 F12_member F12_member_19
  rw [f_within, m_in, Option.bind_some, Option.bind_some]
  dsimp only
  by_cases h1 : 0 ≤ g ∧ g ≤ 2
  · rw [if_pos (c := 0 ≤ g ∧ g ≤ 2) h1, if_neg (show ¬ (1 : Int) = 0 by decide), if_neg (show ¬ (1 : Int) = 0 by decide)]
    rw [f_isL, m_isL2, Option.bind_some, Option.bind_some]
    dsimp only
    by_cases h2 : 0 ≤ l ∧ l ≤ 15
    · rw [if_pos (c := 0 ≤ l ∧ l ≤ 15) h2, if_neg (show ¬ (1 : Int) = 0 by decide), if_neg (show ¬ (1 : Int) = 0 by decide)]
      have ed : j_div l 8 = l / 8 := i_div (by omega) (by omega) (by omega) (by omega)
      have he : l / 8 = 0 ∨ l / 8 = 1 := by omega
      rw [ed]
      obtain ⟨e, hee⟩ : ∃ e, l / 8 = e := ⟨_, rfl⟩
      rw [hee] at he ⊢
      have w3 : w32 (w32 (3 * e) + g) = 3 * e + g := by rw [w32_of (x := 3 * e) (by omega) (by omega), w32_of (by omega) (by omega)]
      obtain ⟨q, hqq⟩ : ∃ q, 3 * e + g = q := ⟨_, rfl⟩
      have hq : 0 ≤ q ∧ q < 6 := by omega
      have q3 : q / 3 = e := by omega
      have hl8 : 8 * (q / 3) ≤ l ∧ l < 8 * (q / 3) + 8 := by omega
      obtain ⟨Q1, Q2, Q3, Q4, Q5, Q6⟩ := R.1.1.2.2.2.2.1
      have m1 : m.1 150 0 q = c.1 2 q 1 := (Q1 q).1
      obtain ⟨n, hnn⟩ : ∃ n, c.1 2 q 1 = n := ⟨_, rfl⟩
      rw [hnn] at m1
      obtain ⟨n0, n8, a25, adis⟩ := Q2 q hq.1 hq.2
      rw [m1] at n0 n8 a25 adis
      rw [g_t (by omega), g_t (by omega), w3, hqq, hnn, lt_d]
      have T := p_has (l := l) hq ⟨n0, n8⟩ hnn m1 (fun i a b => (a25 i a b).1) n.toNat j_fu j_fu 0 (by omega) (by omega) (by unfold j_fu; omega) (by unfold j_fu; omega)
      by_cases h8 : 8 ≤ n
      · rw [if_pos h8]
        rcases T with ⟨_, y⟩ | ⟨_, y, _⟩
        · rw [y]; exact ⟨_, c, m, rfl, rfl, r_y0 R⟩
        · exact (all8 hl8 (fun i a b => (a25 i a (by omega)).2) (fun i j a b a' b' => adis i j a (by omega) a' (by omega)) (fun j a b => y j a (by omega))).elim
      · rw [if_neg h8, g_t (by omega)]
        unfold F2_has
        rcases T with ⟨x1, y1⟩ | ⟨x1, y2, y1⟩
        · rw [x1, y1, Option.bind_some]
          dsimp only
          rw [if_neg (show ¬ (1 : Int) = 0 by decide)]
          exact ⟨_, c, m, rfl, rfl, r_y0 R⟩
        · have w8 : w32 (w32 (8 * q) + n) = 8 * q + n := by rw [w32_of (x := 8 * q) (by omega) (by omega), w32_of (by omega) (by omega)]
          have w1 : w32 (n + 1) = n + 1 := w32_of (by omega) (by omega)
          have k4 : (sR c 25 q n (some l)).1 2 q 1 = n := hnn
          rw [x1, y1, Option.bind_some]
          unfold F12_member_34b
          dsimp only
          rw [if_pos (show (0 : Int) = 0 from rfl), hnn, g_t (by omega), g_t (by omega), lt_d, lt_d, k4, w1, m1, w8, w1, g_t hq, if_pos (Int.le_refl _), g_t hq, g_t hq, lt_d, g_t (by omega), lt_d, g_t hq]
          have sc : so w_mb c (sI (sR c 25 q n (some l)) 2 q 1 (n + 1)) := so_I (so_R (so_rfl c) rfl _ _) rfl _ _
          have sm : so w_mbm m (sI (sI m 150 0 q (n + 1)) 149 0 (8 * q + n) l) := so_I (so_I (so_rfl m) (by simp [w_mbm]) _ _) (by simp [w_mbm]) _ _
          have z0 : ∀ j, (sI (sI m 150 0 q (n + 1)) 149 0 (8 * q + n) l).1 150 0 j = if j = q then n + 1 else m.1 150 0 j := fun j => by
            rw [rI_o (Or.inl (by decide)), rI_I]; simp
          have z9 : ∀ j, (sI (sI m 150 0 q (n + 1)) 149 0 (8 * q + n) l).1 149 0 j = if j = 8 * q + n then l else m.1 149 0 j := fun j => by
            rw [rI_I, rI_o (Or.inl (by decide))]; simp
          have zz : ∀ k j, k ≠ 149 → k ≠ 150 → (sI (sI m 150 0 q (n + 1)) 149 0 (8 * q + n) l).1 k 0 j = m.1 k 0 j := fun k j a b => by
            rw [rI_o (Or.inl a), rI_o (Or.inl b)]
          have z25 : ∀ p i, (sI (sR c 25 q n (some l)) 2 q 1 (n + 1)).2.2 25 p i = if p = q ∧ i = n then some l else c.2.2 25 p i := fun p i => by
            show (if (25 : Nat) = 25 ∧ p = q ∧ i = n then some l else c.2.2 25 p i) = _
            simp
          have y25 : ∀ k p i, k ≠ 25 → (sI (sR c 25 q n (some l)) 2 q 1 (n + 1)).2.2 k p i = c.2.2 k p i := fun k p i a => if_neg (fun z => a z.1)
          have y2' : ∀ k p i, k ≠ 2 ∨ i ≠ 1 → (sI (sR c 25 q n (some l)) 2 q 1 (n + 1)).1 k p i = c.1 k p i := fun k p i a => by
            rw [rI_I, if_neg (fun z => by rcases a with a | a; exact a z.1; exact a z.2.2)]; rfl
          refine ⟨n + 1, _, _, by rw [rI_s], by rw [z0, if_pos rfl], x_mb hf R sc sm ⟨fun p => ?_, fun p a b => ?_, fun p a b => ?_, fun p i j a' b' p0 p1 i0 ij j1 ea eb => ?_, fun id p a b d => ?_, fun p a b => ?_⟩⟩
          · have t := Q1 p
            rw [z0, zz 151 _ (by decide) (by decide), zz 153 _ (by decide) (by decide), y2' 2 p 2 (Or.inr (by decide)), y2' 2 p 3 (Or.inr (by decide))]
            refine ⟨?_, t.2⟩
            by_cases z : p = q
            · rw [if_pos z, z, rI_s]
            · rw [if_neg z, rI_o (Or.inr (Or.inl z))]; exact t.1
          · obtain ⟨t0, t8, t25, tdis⟩ := Q2 p a b
            rw [z0]
            by_cases z : p = q
            · subst z
              rw [if_pos rfl]
              refine ⟨by omega, by omega, fun i i0 i1 => ?_, fun i j i0 i1 j0 j1 => ?_⟩
              · rw [z25, z9]
                by_cases y : i = n
                · subst y; rw [if_pos ⟨rfl, rfl⟩, if_pos rfl]; exact ⟨rfl, hl8⟩
                · rw [if_neg (fun t => y t.2), if_neg (by omega)]; exact a25 i i0 (by omega)
              · rw [z9, z9]
                by_cases y : i = n
                · by_cases y' : j = n
                  · intro _; omega
                  · rw [if_pos (by omega), if_neg (by omega)]; exact fun t => absurd t.symm (y2 j j0 (by omega))
                · by_cases y' : j = n
                  · rw [if_neg (by omega), if_pos (by omega)]; exact fun t => absurd t (y2 i i0 (by omega))
                  · rw [if_neg (by omega), if_neg (by omega)]; exact adis i j i0 (by omega) j0 (by omega)
            · rw [if_neg z]
              refine ⟨t0, t8, fun i i0 i1 => ?_, fun i j i0 i1 j0 j1 => ?_⟩
              · rw [z25, z9, if_neg (fun t => z t.1), if_neg (by omega)]; exact t25 i i0 i1
              · rw [z9, z9, if_neg (by omega), if_neg (by omega)]; exact tdis i j i0 i1 j0 j1
          · have t := Q3 p a b
            rw [zz 153 _ (by decide) (by decide)]
            refine ⟨t.1, fun i i0 i1 => ?_⟩
            obtain ⟨id, l1, l2, l3, l4⟩ := t.2 i i0 i1
            refine ⟨id, ?_, ?_, ?_, ?_⟩
            · exact l1
            · rw [y2' 0 _ _ (Or.inl (by decide))]; exact l2
            · rw [y25 0 _ _ (by decide)]; exact l3
            · rw [zz 152 _ (by decide) (by decide)]; exact l4
          · rw [zz 153 _ (by decide) (by decide)] at j1
            rw [zz 152 _ (by decide) (by decide)] at ea eb
            rw [y2' 0 _ _ (Or.inl (by decide)), y2' 0 _ _ (Or.inl (by decide))]
            exact Q4 p i j a' b' p0 p1 i0 ij j1 ea eb
          · rw [y2' 0 _ _ (Or.inl (by decide))] at b
            rw [y25 0 _ _ (by decide)] at d
            obtain ⟨t1, t2, t3, t4, i, i0, i1, i2⟩ := Q5 id p a b d
            rw [y2' 0 _ _ (Or.inl (by decide)), y2' 2 _ 4 (Or.inr (by decide)), y2' 2 _ 5 (Or.inr (by decide)), zz 153 _ (by decide) (by decide)]
            exact ⟨t1, t2, t3, t4, i, i0, i1, by rw [zz 152 _ (by decide) (by decide)]; exact i2⟩
          · rw [y2' 2 _ 4 (Or.inr (by decide)), y2' 2 _ 5 (Or.inr (by decide)), zz 151 _ (by decide) (by decide)]
            exact Q6 p a b
    · rw [if_neg (c := 0 ≤ l ∧ l ≤ 15) h2, if_pos (show (0 : Int) = 0 from rfl), if_pos (show (0 : Int) = 0 from rfl)]
      exact ⟨_, c, m, rfl, rfl, r_y0 R⟩
  · rw [if_neg (c := 0 ≤ g ∧ g ≤ 2) h1, if_pos (show (0 : Int) = 0 from rfl), if_pos (show (0 : Int) = 0 from rfl)]
    exact ⟨_, c, m, rfl, rfl, r_y0 R⟩
end RN
