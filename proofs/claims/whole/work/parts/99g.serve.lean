/-! ===== groups are served ===== -/
section SA
variable {f : Int → Int} {N z1 z2 X : Int} {sec : Option Int} {Y zd : Int} {c m c' m' : JM} {B B' : Int} {H : HT}
theorem fw_loop {q : Int} (hA : r_a f B H c m) : ∀ (d : Nat) (fu : Nat) (i : Int) (b : Option Int), 0 ≤ i → i + d = c.1 11 0 11 → d < fu → ((b = none ∧ ∀ j a, 0 ≤ j → j < i → c.2.2 40 0 j = some a → ¬ (c.1 0 a 9 = 4 ∧ c.2.2 0 a 5 = some q)) ∨ (∃ x, b = some x ∧ 0 ≤ x ∧ x < 72 ∧ c.1 0 x 9 = 4 ∧ c.2.2 0 x 5 = some q ∧ ∀ j a, 0 ≤ j → j < i → c.2.2 40 0 j = some a → c.1 0 a 9 = 4 → c.2.2 0 a 5 = some q → c.1 0 x 14 ≤ c.1 0 a 14)) →
    ∃ b', F11_firstWaiting_4 fu (some q) b i c = some (b', c) ∧ ((b' = none ∧ ∀ j a, 0 ≤ j → j < c.1 11 0 11 → c.2.2 40 0 j = some a → ¬ (c.1 0 a 9 = 4 ∧ c.2.2 0 a 5 = some q)) ∨ (∃ x, b' = some x ∧ 0 ≤ x ∧ x < 72 ∧ c.1 0 x 9 = 4 ∧ c.2.2 0 x 5 = some q ∧ ∀ j a, 0 ≤ j → j < c.1 11 0 11 → c.2.2 40 0 j = some a → c.1 0 a 9 = 4 → c.2.2 0 a 5 = some q → c.1 0 x 14 ≤ c.1 0 a 14))
  | _, 0, _, _, _, _, h, _ => by omega
  | d, fu + 1, i, b, i0, hd, hfu, inv => by
    show ∃ b', F11_firstWaiting_4b (F11_firstWaiting_4 fu) (some q) b i c = _ ∧ _
    by_cases c1 : c.1 11 0 11 ≤ i
    · have : i = c.1 11 0 11 := by omega
      subst this
      refine ⟨b, ?_, inv⟩
      unfold F11_firstWaiting_4b
      rw [if_pos c1]
    · have h72 : c.1 11 0 11 ≤ 72 := by have := hA.1; omega
      obtain ⟨a, ha, a0, a1⟩ := hA.2.1 i i0 (by omega)
      have w1 : w32 (i + 1) = i + 1 := w32_of (by omega) (by omega)
      have ih := fun b => fw_loop (q := q) hA (d - 1) fu (i + 1) b (by omega) (by omega) (by omega)
      have u1 : ∀ k, F11_firstWaiting_4b k (some q) b i c = if c.1 0 a 9 = 4 then (if c.2.2 0 a 5 = some q then (if b = none then k (some q) (some a) (i + 1) c else b.bind (fun a2 => if c.1 0 a2 14 ≤ c.1 0 a 14 then k (some q) (some a2) (i + 1) c else k (some q) (some a) (i + 1) c)) else k (some q) b (i + 1) c) else k (some q) b (i + 1) c := fun k => by
        unfold F11_firstWaiting_4b F11_firstWaiting_54 F11_firstWaiting_57
        rw [if_neg c1, g_t (show 0 ≤ i ∧ i < 72 by omega), ha, Option.bind_some, w1]
      rw [u1]
      have skip : ¬ (c.1 0 a 9 = 4 ∧ c.2.2 0 a 5 = some q) → ((b = none ∧ ∀ j a, 0 ≤ j → j < i + 1 → c.2.2 40 0 j = some a → ¬ (c.1 0 a 9 = 4 ∧ c.2.2 0 a 5 = some q)) ∨ (∃ x, b = some x ∧ 0 ≤ x ∧ x < 72 ∧ c.1 0 x 9 = 4 ∧ c.2.2 0 x 5 = some q ∧ ∀ j a, 0 ≤ j → j < i + 1 → c.2.2 40 0 j = some a → c.1 0 a 9 = 4 → c.2.2 0 a 5 = some q → c.1 0 x 14 ≤ c.1 0 a 14)) := fun hn => by
        rcases inv with ⟨z1, z2⟩ | ⟨x, z1, z2, z3, z4, z5, z6⟩
        · refine Or.inl ⟨z1, fun j a' j0 j1 e => ?_⟩
          by_cases w : j = i
          · subst w; rw [ha] at e; cases e; exact hn
          · exact z2 j a' j0 (by omega) e
        · refine Or.inr ⟨x, z1, z2, z3, z4, z5, fun j a' j0 j1 e e2 e3 => ?_⟩
          by_cases w : j = i
          · subst w; rw [ha] at e; cases e; exact absurd ⟨e2, e3⟩ hn
          · exact z6 j a' j0 (by omega) e e2 e3
      by_cases c2 : c.1 0 a 9 = 4
      · rw [if_pos c2]
        by_cases c3 : c.2.2 0 a 5 = some q
        · rw [if_pos c3]
          rcases inv with ⟨z1, z2⟩ | ⟨x, z1, z2, z3, z4, z5, z6⟩
          · rw [if_pos z1]
            refine ih (some a) (Or.inr ⟨a, rfl, a0, a1, c2, c3, fun j a' j0 j1 e e2 e3 => ?_⟩)
            by_cases w : j = i
            · subst w; rw [ha] at e; cases e; exact Int.le_refl _
            · exact absurd ⟨e2, e3⟩ (z2 j a' j0 (by omega) e)
          · rw [if_neg (by rw [z1]; simp), z1, Option.bind_some]
            by_cases c4 : c.1 0 x 14 ≤ c.1 0 a 14
            · rw [if_pos c4]
              refine ih (some x) (Or.inr ⟨x, rfl, z2, z3, z4, z5, fun j a' j0 j1 e e2 e3 => ?_⟩)
              by_cases w : j = i
              · subst w; rw [ha] at e; cases e; exact c4
              · exact z6 j a' j0 (by omega) e e2 e3
            · rw [if_neg c4]
              refine ih (some a) (Or.inr ⟨a, rfl, a0, a1, c2, c3, fun j a' j0 j1 e e2 e3 => ?_⟩)
              by_cases w : j = i
              · subst w; rw [ha] at e; cases e; exact Int.le_refl _
              · have := z6 j a' j0 (by omega) e e2 e3; omega
        · rw [if_neg c3]
          exact ih b (skip (fun z => c3 z.2))
      · rw [if_neg c2]
        exact ih b (skip (fun z => c2 z.1))
/-- the first that waits is the head of the queue -/
theorem p_first (hf : f_ok f) (R : rel f N z1 z2 X sec Y zd B H c m) {q : Int} (q0 : 0 ≤ q) (q1 : q < 6) (h0 : 0 < m.1 153 0 q) :
    ∃ id, F11_firstWaiting (some q) c = some (some id, c) ∧ lv c id ∧ c.1 0 id 9 = 4 ∧ c.2.2 0 id 5 = some q ∧ m.1 152 0 (80 * q) = f id := by
  have hA := R.2.2.2.2.2.2.1
  obtain ⟨h1, h2, h3, h4, h5, h6⟩ := R.2.2.2.2.1
  obtain ⟨id, i1, i2, i3, i4⟩ := (h3 q q0 q1).2 0 (by omega) h0
  rw [Int.add_zero] at i4
  obtain ⟨b, e1, e2⟩ := fw_loop (q := q) hA (c.1 11 0 11).toNat j_fu 0 none (by omega) (by have := hA.1; omega) (by have := hA.1; unfold j_fu; omega) (Or.inl ⟨rfl, fun j a j0 j1 => by omega⟩)
  obtain ⟨ji, ji0, ji1, ji2⟩ := hA.2.2.2.2.1 id i1
  refine ⟨id, ?_, i1, i2, i3, i4⟩
  rcases e2 with ⟨_, z⟩ | ⟨x, rfl, x0, x1, x2, x3, x4⟩
  · exact absurd ⟨i2, i3⟩ (z ji id ji0 ji1 ji2)
  · have hx : x = id := by
      have lx : lv c x := ⟨x0, x1, by rw [x2]; decide⟩
      obtain ⟨_, _, _, _, k, k0, k1, k2⟩ := h5 x q lx x2 x3
      have le := x4 ji id ji0 ji1 ji2 i2 i3
      by_cases w : k = 0
      · rw [w, Int.add_zero, i4] at k2
        exact (hf.1 _ _ k2).symm
      · have := h4 q 0 k id x q0 q1 (by omega) (by omega) k1 (by rw [Int.add_zero]; exact i4) k2
        omega
    rw [← hx]
    exact e1
theorem acm_id {id s : Int} (hA : s_A N id s c m) (han : m.1 148 0 s = c.1 0 id 15) (h1 : c.2.2 0 id 2 ≠ none → c.1 0 id 15 = 1) : F12_acm s m = some m := by
  obtain ⟨s0, s1, e01, hh, hs⟩ := hA
  unfold F12_acm
  rw [g_t ⟨s0, s1⟩]
  rcases hs with ⟨a1, a2, a3⟩ | ⟨a1, a2, a3, a4, a5⟩
  · have e1 : F12_isCircuit (m.1 136 0 s) m = some (0, m) := by
      unfold F12_isCircuit F12_isCircuit_17
      rw [if_pos (by omega)]
    rw [e1, Option.bind_some, if_pos rfl]
  · have e1 : F12_isCircuit (m.1 136 0 s) m = some (1, m) := by
      unfold F12_isCircuit
      rw [if_neg (by omega), if_neg (by omega)]
    have h2 := h1 (by rw [a1]; simp)
    rw [e1, Option.bind_some, if_neg (by simp), g_t ⟨s0, s1⟩]
    dsimp only
    rw [if_neg (by omega)]
/-- one call is taken out of the queue and rings -/
theorem p_serve1 (hf : f_ok f) (hB : B + 10 < 2000000000) {id q l : Int} (R : relN f N B H c m) (q0 : 0 ≤ q) (q1 : q < 6) (h0 : 0 < m.1 153 0 q) (hv : lv c id) (s4 : c.1 0 id 9 = 4) (hg : c.2.2 0 id 5 = some q) (hh : m.1 152 0 (80 * q) = f id) (hl : gd q c l) :
    ∃ c' m', F11_ring (some id) (some l) (sI c 2 q 3 (w32 (c.1 2 q 3 - 1))) = some c' ∧ (∀ k : JM → Option JM, (F12_leaves (f id) m).bind (fun h2 => lt_ (sI h2 121 0 l (f id)) (fun h3 => (F12_rings (f id) l (j_rem q 3) h3).bind k)) = k m') ∧ relN f N B H c' m' ∧ so w_C c c' ∧ so w_M m m' ∧ (∀ x, c'.2.2 4 x 13 = if x = l then some id else c.2.2 4 x 13) := by
  have i0 := hv.1
  have hfr := hf.2.2.1 id hv.1 (by have := hv.2.1; omega)
  have b_st := R.2.2.1.1 id hv.1 hv.2.1
  have b_hm := R.2.2.1.2.2.1 id hv
  have b_sb := R.2.2.1.2.2.2.2.1 id hv
  have b_gp := R.2.2.1.2.2.2.2.2.1 id hv
  have b_ky := R.2.2.1.2.2.2.2.2.2.1 id hv (by omega)
  have b_k1 := R.2.2.1.2.2.2.2.2.2.2.1 id hv (by omega)
  have b_an := R.2.2.1.2.2.2.2.2.2.2.2.2.2.2.1 id hv
  have b_zn := R.2.2.1.2.2.2.2.2.2.2.2.2.2.2.2.1 id hv
  have hnow : m.1 12 0 2 = c.1 11 0 10 := R.1.2.2.2.2.2.2.2.1
  obtain ⟨g1, g2, g3, g4, g5, g6, g7⟩ := hl
  have hM := r_q_many hf R.2.2.2.2.1 q0 q1
  obtain ⟨e1, e2, e3⟩ := R.2.2.2.2.1.1 q
  obtain ⟨s3, s4', s6, hb7⟩ : c.2.2 0 id 3 = none ∧ c.2.2 0 id 4 = none ∧ c.1 0 id 6 = -1 ∧ (300 ≤ m.1 137 0 (f id) ∧ m.1 137 0 (f id) ≤ 302 ∧ c.2.2 0 id 5 = some (3 * m.1 135 0 (f id) + m.1 137 0 (f id) - 300)) := by
    rcases b_sb with h | h | h | h | h
    · omega
    · omega
    · omega
    · omega
    · exact ⟨h.2.2.1, h.2.2.2.1, h.2.2.2.2.1, h.1, h.2.1, h.2.2.2.2.2.2⟩
  have h8 : m.1 138 0 (f id) = -1 := by
    rcases b_gp with ⟨h, _⟩ | ⟨_, _, h, _⟩
    · exact h
    · omega
  have hq : q = 3 * m.1 135 0 (f id) + m.1 137 0 (f id) - 300 := by
    have := hb7.2.2
    rw [hg] at this
    cases this
    rfl
  have hr3 : j_rem q 3 = m.1 137 0 (f id) - 300 := by
    rw [i_rem q0 (by omega) (by omega) (by omega)]
    omega
  generalize hgg : m.1 137 0 (f id) - 300 = g at *
  -- the head is alone
  have uniq : ∀ j, 0 ≤ j → j < m.1 153 0 q → j ≠ 0 → m.1 152 0 (80 * q + j) ≠ f id := fun j a b d e => by
    have := R.2.2.2.2.1.2.2.2.1 q 0 j id id q0 q1 (by omega) (by omega) b (by rw [Int.add_zero]; exact hh) e
    omega
  obtain ⟨m1, y1, y2, y3⟩ := m_leaves (p := 0) (M := m.1 153 0 q) hfr rfl rfl b_hm.2 ⟨hb7.1, hb7.2.1⟩ hq rfl ⟨by omega, h0⟩ (by omega) (by rw [Int.add_zero]; exact hh) uniq
  have w3 : w32 (c.1 2 q 3 - 1) = c.1 2 q 3 - 1 := w32_of (by omega) (by omega)
  -- class
  generalize hnw : c.1 11 0 10 = nw at *
  have ec : F11_ring (some id) (some l) (sI c 2 q 3 (w32 (c.1 2 q 3 - 1))) = some (sI (sI (sR (sR (sI c 2 q 3 (c.1 2 q 3 - 1)) 4 l 13 (some id)) 0 id 3 (some l)) 0 id 9 2) 0 id 10 nw) := by
    unfold F11_ring F11_enter
    rw [w3]
    simp only [Option.bind_some, lt_d]
    simp [rI_I, rR_I, hnw]
  have t := t_ring (nw := nw) (g := g) hf hv ⟨s3, s4', s6, by omega⟩ (fun w => by have := b_zn w; omega) ⟨g1, g2, by omega, by omega, g5, g6⟩ (Or.inr ⟨by omega, by omega, by rw [hg, hq]; congr 1; omega⟩) (r_h_zn R.2.2.1 id)
  generalize hC : sI (sI (sR (sR (sI c 2 q 3 (c.1 2 q 3 - 1)) 4 l 13 (some id)) 0 id 3 (some l)) 0 id 9 2) 0 id 10 nw = C at *
  have CI : ∀ k n j, C.1 k n j = if k = 0 ∧ n = id ∧ j = 10 then nw else if k = 0 ∧ n = id ∧ j = 9 then 2 else if k = 2 ∧ n = q ∧ j = 3 then c.1 2 q 3 - 1 else c.1 k n j := fun k n j => by rw [← hC]; simp only [rI_I, rR_I]
  have CR : ∀ k n j, C.2.2 k n j = if k = 0 ∧ n = id ∧ j = 3 then some l else if k = 4 ∧ n = l ∧ j = 13 then some id else c.2.2 k n j := fun k n j => by rw [← hC]; simp only [rI_R, rR_R]
  have CL : C.2.1 = c.2.1 := by rw [← hC]; rfl
  generalize hM2 : sI (sI (sI (sI (sI m1 121 0 l (f id)) 137 0 (f id) l) 138 0 (f id) g) 133 0 (f id) 2) 145 0 (f id) nw = M at *
  have MI : ∀ k n j, M.1 k n j = if k = 145 ∧ n = 0 ∧ j = f id then nw else if k = 133 ∧ n = 0 ∧ j = f id then 2 else if k = 138 ∧ n = 0 ∧ j = f id then g else if k = 137 ∧ n = 0 ∧ j = f id then l else if k = 121 ∧ n = 0 ∧ j = l then f id else if k = 152 ∧ n = 0 ∧ 80 * q + 0 ≤ j ∧ j < 80 * q + m.1 153 0 q - 1 then m.1 152 0 (j + 1) else if k = 153 ∧ n = 0 ∧ j = q then m.1 153 0 q - 1 else m.1 k n j := fun k n j => by rw [← hM2]; simp only [rI_I, y3]
  have ML : M.2 = m.2 := by rw [← hM2]; exact y2
  have I9 : ∀ n, C.1 0 n 9 = if n = id then 2 else c.1 0 n 9 := fun n => by rw [CI]; simp
  have sc : so w_x c C := by rw [← hC]; exact so_I (so_I (so_R (so_R (so_I (so_rfl c) rfl _ _) rfl _ _) rfl _ _) rfl _ _) rfl _ _
  have sm : so w_xm m M := fun k n j hk => by
    have nk : ∀ k0 : Nat, w_xm k0 j = true → k ≠ k0 := fun k0 h0 z => by rw [z, h0] at hk; cases hk
    refine ⟨?_, by rw [ML], by rw [ML]⟩
    rw [MI, if_neg (fun z => nk 145 rfl z.1), if_neg (fun z => nk 133 rfl z.1), if_neg (fun z => nk 138 rfl z.1), if_neg (fun z => nk 137 rfl z.1), if_neg (fun z => nk 121 rfl z.1), if_neg (fun z => nk 152 rfl z.1), if_neg (fun z => nk 153 rfl z.1)]
  have R1 : rel f N (-1) (-1) (-1) none (-1) id B H C M := by
    refine rel_mk (Int.le_refl B) R sc sm ?_ ?_ ?_ ?_
    · refine r_h_cg (fun k n j hk => ?_) (fun k n j hk => ?_) t
      · have k2 : k ≠ 2 := fun z => by rw [z] at hk; cases hk
        refine ⟨?_, by rw [CL]; rfl, ?_⟩
        · rw [CI, if_neg (show ¬ (k = 2 ∧ n = q ∧ j = 3) from fun z => k2 z.1)]
          simp only [rI_I, rR_I]
        · rw [CR]; simp only [rI_R, rR_R]
      · have k2 : k ≠ 152 := fun z => by rw [z] at hk; cases hk
        have k3 : k ≠ 153 := fun z => by rw [z] at hk; cases hk
        rw [MI, if_neg (show ¬ (k = 152 ∧ n = 0 ∧ 80 * q + 0 ≤ j ∧ j < 80 * q + m.1 153 0 q - 1) from fun z => k2 z.1), if_neg (show ¬ (k = 153 ∧ n = 0 ∧ j = q) from fun z => k3 z.1)]
        simp only [rI_I]
    · have Q0 : r_q f B (sI (sI c 2 q 3 (c.1 2 q 3 - 1)) 0 id 9 (-1)) M := by
        refine q_leave (p := 0) hf R.2.2.2.2.1 hv s4 hg q0 q1 (by omega) h0 (by rw [Int.add_zero]; exact hh) (fun n j => ?_) (fun n j => rfl) (fun n j => ?_) (fun n j => rfl) (fun k j a b => ?_) (fun j => ?_) (fun j => ?_)
        · simp only [rI_I]; simp
        · simp only [rI_I]; simp
        · rw [MI, if_neg (by omega), if_neg (by omega), if_neg (by omega), if_neg (by omega), if_neg (by omega), if_neg (by omega), if_neg (by omega)]
        · rw [MI, if_neg (by omega), if_neg (by omega), if_neg (by omega), if_neg (by omega), if_neg (by omega)]
          simp
        · rw [MI]; simp
      refine q_cg Q0 (fun n => ?_) hf (fun n j => ?_) (fun n j => ?_) (fun k j a b => rfl)
      · rw [I9]
        have e5 : C.2.2 0 n 5 = c.2.2 0 n 5 := by rw [CR]; simp
        have e14 : C.1 0 n 14 = c.1 0 n 14 := by rw [CI]; simp
        rw [e5, e14]
        simp only [rI_I, rI_R]
        by_cases w : n = id
        · simp [w]
        · simp [w]
      · rw [CI]; simp only [rI_I]; simp
      · rw [CR]; simp [rI_R]
    · refine rr_cg R.2.2.2.2.2.1 (fun s a b => ?_) (fun e r => by rw [CI]; simp) (by rw [CI]; simp)
      have h2 : m.1 133 0 (f id) = 4 := by omega
      rw [MI, MI, MI]
      by_cases w : s = f id
      · subst w; simp [h2]
      · simp [w]
    · exact a_cg R.2.2.2.2.2.2.1 (fun n => by
        rw [I9]
        by_cases w : n = id
        · subst w; simp; omega
        · simp [w]) (fun j => by rw [CR]; simp) (by rw [CI]; simp) (by rw [CI]; simp) (fun j => by rw [MI]; simp) (by rw [MI]; simp)
  have R2 : relN f N B H C M := by
    refine rel_zd R1 (fun _ => ?_) (fun _ => ⟨fun w => ?_, ?_⟩) (fun _ w => ?_) (fun _ _ w => ?_) (fun _ w => ?_)
    · rw [CL]
      obtain ⟨K, k1, k2, k3, k4⟩ := b_ky
      exact ⟨K, k1, k2, by rw [MI]; simpa using k3, fun j hj => by have := k4 j hj; show M.1 139 0 _ = _; rw [MI]; simpa using this⟩
    · rw [I9, if_pos rfl] at w; cases w
    · rw [CI]; simp; exact b_k1.2
    · rw [MI] at w; simp at w; omega
    · have e15 : C.1 0 id 15 = c.1 0 id 15 := by rw [CI]; simp
      have e2' : C.2.2 0 id 2 = c.2.2 0 id 2 := by rw [CR]; simp
      rw [e15]
      rw [e2'] at w
      exact b_an.2.2 (Or.inr s4) (by omega) w
    · rw [I9, if_pos rfl] at w; cases w
  have hvC : lv C id := ⟨hv.1, hv.2.1, by rw [I9, if_pos rfl]; decide⟩
  have bC := R2.2.2.1.2.2.2.2.2.2.2.2.2.2.2.1 id hvC
  refine ⟨C, M, ec, fun k => ?_, R2, so_mono w_e1 sc, so_mono w_e2 sm, fun x => by rw [CR]; simp⟩
  have am := acm_id (s_A_of hf hvC R2.1 R2.2.2.1) bC.1 (bC.2.2 (Or.inl (by rw [I9, if_pos rfl])) (by omega))
  rw [y1, Option.bind_some, lt_d]
  unfold F12_rings F12_becomes
  rw [hr3, g_t hfr, lt_d, g_t hfr, lt_d, g_t hfr, lt_d, g_t hfr, lt_d, Option.bind_some]
  have r1 : (sI (sI (sI (sI m1 121 0 l (f id)) 137 0 (f id) l) 138 0 (f id) g) 133 0 (f id) 2).1 12 0 2 = nw := by
    simp only [rI_I, y3]
    simp [hnow]
  rw [r1, hM2, am, Option.bind_some, Option.bind_some]
/-- a group is served -/
theorem sv_loop (hf : f_ok f) {q : Int} (q0 : 0 ≤ q) (q1 : q < 6) (k2 : Int → JM → Option JM) (hB : B + 10 < 2000000000) : ∀ (d : Nat) (fu fu' : Nat) (j : Int) (c m : JM), relN f N B H c m → 0 ≤ j → j + d = 8 → d < fu → d < fu' → cn (fun i => decide (c.2.2 4 (8 * (q / 3) + i) 13 = none)) 8 ≤ 8 - j →
    ∃ c' m', F11_serveGroups_26 k2 fu q (some q) j c = k2 (q + 1) c' ∧ (F12_ready q m).bind (fun q6 => F12_serves_6 fu' q q6.1 q6.2) = some m' ∧ relN f N B H c' m' ∧ so w_C c c' ∧ so w_M m m'
  | _, 0, _, _, _, _, _, _, _, h, _, _ => by omega
  | _, _ + 1, 0, _, _, _, _, _, _, _, h, _ => by omega
  | d, fu + 1, fu' + 1, j, c, m, R, j0, hd, h1, h2, hc => by
    obtain ⟨a, b, n1, n2, n3⟩ := p_next hf R.2.1 R.2.2.1 R.2.2.2.2.1 q0 q1
    obtain ⟨e1, e2, e3⟩ := R.2.2.2.2.1.1 q
    have w1 : w32 (q + 1) = q + 1 := w32_of (by omega) (by omega)
    have w2 : w32 (80 * q) = 80 * q := w32_of (by omega) (by omega)
    have w3 : w32 (j + 1) = j + 1 := w32_of (by omega) (by omega)
    have hq3 : 0 ≤ q / 3 ∧ q / 3 ≤ 1 := by omega
    have stop : (m.1 153 0 q ≤ 0 ∨ b = -1) → ∃ c' m', F11_serveGroups_26 k2 (fu + 1) q (some q) j c = k2 (q + 1) c' ∧ (F12_ready q m).bind (fun q6 => F12_serves_6 (fu' + 1) q q6.1 q6.2) = some m' ∧ relN f N B H c' m' ∧ so w_C c c' ∧ so w_M m m' := fun hs => by
      refine ⟨c, m, ?_, ?_, R, so_rfl c, so_rfl m⟩
      · show F11_serveGroups_26b k2 (F11_serveGroups_26 k2 fu) q (some q) j c = _
        unfold F11_serveGroups_26b F11_serveGroups_89
        rw [w1, Option.bind_some]
        by_cases c1 : 8 ≤ j
        · rw [if_pos c1]
        · rw [if_neg c1]
          by_cases c2 : c.1 2 q 3 ≤ 0
          · rw [if_pos c2]
          · have hb : b = -1 := by omega
            have ha : a = none := by
              rcases n3 with ⟨x, _⟩ | ⟨_, x⟩
              · exact x
              · have := x.1; omega
            obtain ⟨id, f1, _⟩ := p_first hf R q0 q1 (by omega)
            rw [if_neg c2, n1, Option.bind_some]
            dsimp only
            rw [f1, Option.bind_some, if_pos ha]
      · rw [n2, Option.bind_some]
        show F12_serves_6b (F12_serves_6 fu') q b m = _
        unfold F12_serves_6b
        rw [g_t ⟨q0, q1⟩]
        by_cases c2 : m.1 153 0 q ≤ 0
        · rw [if_pos c2]
        · rw [if_neg c2, if_pos (by omega)]
    by_cases hs : m.1 153 0 q ≤ 0 ∨ b = -1
    · exact stop hs
    · obtain ⟨ha, gl⟩ : a = some b ∧ gd q c b := by
        rcases n3 with ⟨_, x⟩ | x
        · exact absurd (Or.inr x) hs
        · exact x
      obtain ⟨gl1, gl2, gl3, gl4, gl5, gl6, gl7⟩ := gl
      have hc1 : 1 ≤ cn (fun i => decide (c.2.2 4 (8 * (q / 3) + i) 13 = none)) 8 := cn_pos (s := b - 8 * (q / 3)) (by omega) (by omega) (by simp; rw [show 8 * (q / 3) + (b - 8 * (q / 3)) = b by omega]; exact gl6)
      have hj8 : ¬ 8 ≤ j := by omega
      have h0 : 0 < m.1 153 0 q := by omega
      obtain ⟨id, f1, f2, f3, f4, f5⟩ := p_first hf R q0 q1 h0
      obtain ⟨c1, m1, s1, s2, s3, s4, s5, s6⟩ := p_serve1 hf hB R q0 q1 h0 f2 f3 f4 f5 ⟨gl1, gl2, gl3, gl4, gl5, gl6, gl7⟩
      have hc2 : cn (fun i => decide (c1.2.2 4 (8 * (q / 3) + i) 13 = none)) 8 = cn (fun i => decide (c.2.2 4 (8 * (q / 3) + i) 13 = none)) 8 - 1 := by
        rw [cn_up (p := fun i => decide (c.2.2 4 (8 * (q / 3) + i) 13 = none)) (s := b - 8 * (q / 3)) (by omega) (by omega) (fun i a b' d => by rw [s6, if_neg (by omega)])]
        have e1 : 8 * (q / 3) + (b - 8 * (q / 3)) = b := by omega
        rw [e1, s6, if_pos rfl, gl6]
        simp
      obtain ⟨c', m', y1, y2, y3, y4, y5⟩ := sv_loop hf q0 q1 k2 hB (d - 1) fu fu' (j + 1) c1 m1 s3 (by omega) (by omega) (by omega) (by omega) (by omega)
      refine ⟨c', m', ?_, ?_, y3, so_tr s4 y4, so_tr s5 y5⟩
      · show F11_serveGroups_26b k2 (F11_serveGroups_26 k2 fu) q (some q) j c = _
        unfold F11_serveGroups_26b
        rw [if_neg hj8, Option.bind_some, if_neg (by omega), n1, Option.bind_some]
        dsimp only
        rw [f1, Option.bind_some, if_neg (by rw [ha]; simp), if_neg (by simp), lt_d]
        dsimp only
        rw [ha, s1, Option.bind_some, w3]
        exact y1
      · rw [n2, Option.bind_some]
        show F12_serves_6b (F12_serves_6 fu') q b m = _
        unfold F12_serves_6b
        rw [g_t ⟨q0, q1⟩, if_neg (by omega), if_neg (by omega), w2, g_t (by omega), lt_d, f5]
        have := s2 (fun h4 => (F12_ready q h4).bind (fun q5 => F12_serves_6 fu' q q5.1 q5.2))
        rw [y2] at this
        rw [← this]
        simp only [g_t (show 0 ≤ b ∧ b < 16 from ⟨gl1, gl2⟩)]
/-- all groups of the class, from group q on; the reference's groups one by one -/
theorem p_serves (hf : f_ok f) (hB : B + 10 < 2000000000) : ∀ (d : Nat) (fu : Nat) (q : Int) (c m : JM), relN f N B H c m → 0 ≤ q → q + d = 6 → d < fu →
    ∃ c' m', F11_serveGroups_2 fu q c = some c' ∧ relN f N B H c' m' ∧ so w_C c c' ∧ so w_M m m' ∧ (∀ (k32 : Int → Int → JM → Option (Int × JM)) (fu' : Nat) (l1 l2 : Int), d < fu' → F12_tick_72 k32 fu' l1 l2 q m = F12_tick_72b k32 (fun _ _ _ _ => none) l1 l2 6 m')
  | _, 0, _, _, _, _, _, _, h => by omega
  | d, fu + 1, q, c, m, R, q0, hd, hfu => by
    by_cases hq6 : 6 ≤ q
    · have : q = 6 := by omega
      subst this
      refine ⟨c, m, ?_, R, so_rfl c, so_rfl m, fun k32 fu' l1 l2 hf' => ?_⟩
      · show F11_serveGroups_2b (F11_serveGroups_2 fu) 6 c = _
        unfold F11_serveGroups_2b
        rw [if_pos (by decide)]
      · cases fu' with
        | zero => omega
        | succ n =>
          show F12_tick_72b k32 (F12_tick_72 k32 n) l1 l2 6 m = _
          unfold F12_tick_72b
          rw [if_pos (show (6 : Int) ≤ 6 by decide), if_pos (show (6 : Int) ≤ 6 by decide)]
    · have e1 : j_div q 3 = q / 3 := i_div q0 (by omega) (by omega) (by omega)
      have e2 : j_rem q 3 = q % 3 := i_rem q0 (by omega) (by omega) (by omega)
      have hb := cn_b (fun i => decide (c.2.2 4 (8 * (q / 3) + i) 13 = none)) 8
      obtain ⟨c1, m1, s1, s2, s3, s4, s5⟩ := sv_loop hf q0 (by omega) (F11_serveGroups_2 fu) hB 8 j_fu j_fu 0 c m R (by omega) (by omega) (by unfold j_fu; omega) (by unfold j_fu; omega) (by omega)
      obtain ⟨c', m', y1, y2, y3, y4, y5⟩ := p_serves hf hB (d - 1) fu (q + 1) c1 m1 s3 (by omega) (by omega) (by omega)
      refine ⟨c', m', ?_, y2, so_tr s4 y3, so_tr s5 y4, fun k32 fu' l1 l2 hf' => ?_⟩
      · show F11_serveGroups_2b (F11_serveGroups_2 fu) q c = _
        unfold F11_serveGroups_2b
        rw [if_neg hq6, e1, e2, g_t (by omega), g_t (by omega), show 3 * (q / 3) + q % 3 = q by omega, s1, y1]
      · cases fu' with
        | zero => omega
        | succ n =>
          show F12_tick_72b k32 (F12_tick_72 k32 n) l1 l2 q m = _
          conv => lhs; unfold F12_tick_72b
          rw [if_neg hq6, show F12_serves q m = some m1 from s2, Option.bind_some, w32_of (by omega) (by omega)]
          exact y5 k32 n l1 l2 (by omega)
end SA
