/-! ===== end and over ===== -/
def w_end (k : Nat) (j : Int) : Bool := k == 5 || k == 31 || (k == 4 && (j == 11 || j == 12 || j == 13 || j == 14 || j == 15 || j == 16)) || (k == 8 && (j == 2 || j == 3)) || (k == 0 && j == 9) || (k == 11 && j == 13) || (k == 2 && j == 3) || k == 23 || k == 27 || (k == 3 && j == 2)
def w_ends (k : Nat) (j : Int) : Bool := k == 119 || k == 120 || k == 121 || k == 122 || k == 123 || k == 125 || k == 154 || k == 155 || k == 156 || k == 158 || k == 159 || k == 160 || (k == 12 && (j == 57 || j == 90)) || k == 133 || k == 152 || k == 153 || k == 191
def w_38 (k : Nat) (j : Int) : Bool := (k == 0 && j == 9) || (k == 11 && j == 13) || (k == 2 && j == 3) || k == 23 || k == 27 || (k == 3 && j == 2)
def w_pre (k : Nat) (j : Int) : Bool := k == 191 || (k == 12 && j == 90) || k == 152 || k == 153
theorem w_f1 : ∀ k j, rkM k j = true → w_pre k j = false := by intro k j; simp [rkM, w_pre]; omega
theorem w_f2 : ∀ k (j : Int), rlM k = true → w_pre k j = false := by intro k j; simp [rlM, w_pre]; omega
theorem w_f3 : ∀ k (j : Int), rdM k = true → w_pre k j = false := by intro k j; simp [rdM, w_pre]; omega
theorem w_f4 : ∀ k j, rkC k j = true → w_38 k j = false := by intro k j; simp [rkC, w_38]; omega
theorem w_f5 : ∀ k j, rlC k j = true → w_38 k j = false := by intro k j; simp [rlC, w_38]; omega
theorem w_f6 : ∀ k j, rpC k j = true → w_38 k j = false := by intro k j; simp [rpC, w_38]; omega
theorem w_f7 : ∀ k j, rpC k j = true → w_tell k j = false := by intro k j; simp [rpC, w_tell]; omega
theorem w_f8 : ∀ k (j : Int), rpM k = true → w_ends k j = false := by intro k j; simp [rpM, w_ends]; omega
theorem w_f9 : ∀ k j, w_end k j = false → w_38 k j = false := by intro k j; simp [w_end, w_38]; omega
theorem w_f10 : ∀ k j, w_end k j = false → w_tell k j = false := by intro k j; simp [w_end, w_tell]; omega
theorem w_f11 : ∀ k j, w_ends k j = false → w_pre k j = false := by intro k j; simp [w_ends, w_pre]; omega
theorem w_f12 : ∀ k j, w_ends k j = false → w_tells k j = false := by intro k j; simp [w_ends, w_tells]; omega
theorem w_f13 : ∀ k j, rkM k j = true → k ≠ 133 := by intro k j; simp [rkM]; omega
theorem w_f14 : ∀ k, rlM k = true → k ≠ 133 := by intro k; simp [rlM]; omega
section RX
variable {f : Int → Int} {N z1 z2 X : Int} {sec : Option Int} {Y zd : Int} {c m c' m' : JM} {B B' : Int} {H : HT}
theorem r_m_mono (hb : B ≤ B') (q : ∀ e, e = 0 ∨ e = 1 → r_m B c m e) : ∀ e, e = 0 ∨ e = 1 → r_m B' c m e := fun e he => by
  obtain ⟨q1, q2, q3⟩ := q e he
  exact ⟨q1, by omega, q3⟩
theorem r_q_mono (hb : B ≤ B') (q : r_q f B c m) : r_q f B' c m := by
  obtain ⟨h1, h2, h3, h4, h5, h6⟩ := q
  exact ⟨h1, h2, h3, h4, h5, fun q a b => by have := h6 q a b; omega⟩
theorem r_a_mono (hb : B ≤ B') (q : r_a f B H c m) : r_a f B' H c m := by
  obtain ⟨h1, h2, h3, h4, h5, h6, h7, h8, h9⟩ := q
  exact ⟨h1, h2, h3, h4, h5, h6, h7, by omega, h9⟩
theorem r_g_mono (hb : B ≤ B') (q : r_g B c m) : r_g B' c m := ⟨q.1, q.2.1, by have := q.2.2; omega⟩
theorem rel_mono (hb : B ≤ B') (q : rel f N z1 z2 X sec Y zd B H c m) : rel f N z1 z2 X sec Y zd B' H c m := by
  obtain ⟨h1, h2, h3, h4, h5, h6, h7, h8, h9, h10⟩ := q
  exact ⟨h1, h2, h3, r_m_mono hb h4, r_q_mono hb h5, h6, r_a_mono hb h7, r_g_mono hb h8, h9, h10⟩
theorem m_pre (hf : f_ok f) {id why w' q p at' : Int} (hv : lv c id) (H : r_h f N z1 z2 X sec Y zd c m) (hg0 : 0 ≤ m.1 12 0 90 ∧ m.1 12 0 90 < 2000000000) (ha : at' = 5 * (m.1 12 0 90 % 300))
    (h4 : c.1 0 id 9 = 4 → q = 3 * m.1 135 0 (f id) + m.1 137 0 (f id) - 300 ∧ 0 ≤ p ∧ p < m.1 153 0 q ∧ m.1 153 0 q ≤ 72 ∧ m.1 152 0 (80 * q + p) = f id ∧ ∀ j, 0 ≤ j → j < m.1 153 0 q → j ≠ p → m.1 152 0 (80 * q + j) ≠ f id) :
    ∃ mX, F12_over (f id) why w' m = F12_over_42 (f id) why w' mX ∧ mX.2 = m.2 ∧ (∀ k n j, mX.1 k n j = if k = 191 ∧ n = 0 ∧ at' ≤ j ∧ j < at' + 5 ∧ c.1 0 id 9 = 3 ∧ c.2.2 0 id 1 ≠ none then rcM m (f id) (j - at') else if k = 12 ∧ n = 0 ∧ j = 90 ∧ c.1 0 id 9 = 3 ∧ c.2.2 0 id 1 ≠ none then m.1 12 0 90 + 1 else if k = 152 ∧ n = 0 ∧ c.1 0 id 9 = 4 ∧ 80 * q + p ≤ j ∧ j < 80 * q + m.1 153 0 q - 1 then m.1 152 0 (j + 1) else if k = 153 ∧ n = 0 ∧ j = q ∧ c.1 0 id 9 = 4 then m.1 153 0 q - 1 else m.1 k n j) := by
  have hfr := hf.2.2.1 id hv.1 (by have := hv.2.1; omega)
  obtain ⟨h_st, h_sx, h_hm, h_sa, h_sb, h_gp, h_ky, h_k1, h_fw, h_fr, h_ce, h_an, h_zn, h_rw, h_la, h_lo, h_lr, h_wa, h_wo, h_wx, h_wr, h_w3, h_w4, h_w8, h_w9, h_w5, h_t1, h_t2, h_t3, h_t6, h_t9, h_ty, h_xx, h_zr⟩ := H
  have hst := (h_st id hv.1 hv.2.1).1
  have hhm := h_hm id hv
  have hsa := h_sa id hv
  have hsb := h_sb id hv
  unfold F12_over
  rw [g_t hfr, hst]
  by_cases s3 : c.1 0 id 9 = 3
  · rw [if_pos s3, g_t hfr]
    have k27 : ∀ m1 : JM, m1.1 133 0 (f id) = 3 → F12_over_27 (f id) why w' m1 = F12_over_42 (f id) why w' m1 := fun m1 q => by
      unfold F12_over_27
      rw [g_t hfr, q, if_neg (by decide)]
    rcases hsa with ⟨a1, a2, a3, a4⟩ | ⟨a1, a2, a3, a4⟩
    · have e1 : F12_isLineSide (m.1 136 0 (f id)) m = some (1, m) := by
        unfold F12_isLineSide
        rw [if_neg (by omega), if_neg (by omega)]
      rw [e1, Option.bind_some, if_neg (by simp)]
      obtain ⟨mX, r1, r2, r3⟩ := m_records m (f id) at' hfr hg0 ha
      rw [r1, Option.bind_some, k27 mX (by rw [r3, hst, s3]; simp)]
      refine ⟨mX, rfl, r2, fun k n j => ?_⟩
      rw [r3]
      have : c.2.2 0 id 1 ≠ none := by rw [a1]; simp
      grind
    · have e1 : F12_isLineSide (m.1 136 0 (f id)) m = some (0, m) := by
        unfold F12_isLineSide F12_isLineSide_14
        rw [if_neg (by omega), if_pos (by omega)]
      rw [e1, Option.bind_some, if_pos rfl, k27 m (by rw [hst, s3])]
      refine ⟨m, rfl, rfl, fun k n j => ?_⟩
      grind
  · rw [if_neg s3]
    unfold F12_over_27
    rw [g_t hfr, hst]
    by_cases s4 : c.1 0 id 9 = 4
    · obtain ⟨q1, q2, q3, q4, q5, q6⟩ := h4 s4
      have hb : 300 ≤ m.1 137 0 (f id) ∧ m.1 137 0 (f id) ≤ 302 := by omega
      obtain ⟨mX, r1, r2, r3⟩ := m_leaves hfr rfl rfl hhm.2 hb q1 rfl ⟨q2, q3⟩ (by omega) q5 q6
      rw [if_pos s4, r1, Option.bind_some]
      refine ⟨mX, rfl, r2, fun k n j => ?_⟩
      rw [r3]
      grind
    · rw [if_neg s4]
      refine ⟨m, rfl, rfl, fun k n j => ?_⟩
      grind
theorem p_end (hf : f_ok f) (hB : B + 10 < 2000000000) {id why w w' : Int} (z : Int) (hw : 0 ≤ why ∧ why < 256) (hv : lv c id) (R : rel f N id z2 X sec Y zd B H c m) (hsec : sec ≠ some id)
    (hby : (w = 0 ∧ w' = -1) ∨ (w = 1 ∧ w' = m.1 136 0 (f id)) ∨ (w = 2 ∧ w' = m.1 137 0 (f id)))
    (hXA : w ≠ 1 → c.2.2 0 id 1 ≠ some X) (hXB : w ≠ 2 → c.2.2 0 id 3 ≠ some X)
    (hTA : w ≠ 1 → ∀ t, c.2.2 0 id 2 = some t → c.2.2 8 t 3 = some id) (hTB : w ≠ 2 → ∀ t, c.2.2 0 id 4 = some t → c.2.2 8 t 3 = some id)
    (hcA : w = 1 → (∀ l j, c.2.2 0 id 1 = some l → j = 11 ∨ j = 12 ∨ j = 13 → c.2.2 4 l j ≠ some id) ∧ (∀ t, c.2.2 0 id 2 = some t → c.2.2 8 t 3 ≠ some id))
    (hcB : w = 2 → (∀ l j, c.2.2 0 id 3 = some l → j = 11 ∨ j = 12 ∨ j = 13 → c.2.2 4 l j ≠ some id) ∧ (∀ t, c.2.2 0 id 4 = some t → c.2.2 8 t 3 ≠ some id)) :
    ∃ c' m', F11_end (some id) why w c = some c' ∧ F12_over (f id) why w' m = some m' ∧ rel f N z z2 X sec Y zd (B + 3) H c' m' ∧ so w_end c c' ∧ so w_ends m m' ∧ (∀ n j, c'.1 0 n j = if n = id ∧ j = 9 then -1 else c.1 0 n j) := by
  obtain ⟨R1, R2, R3, R4, R5, R6, R7, R8, R9, R10⟩ := R
  have hfr := hf.2.2.1 id hv.1 (by have := hv.2.1; omega)
  have zz := R3
  obtain ⟨h_st, h_sx, h_hm, h_sa, h_sb, h_gp, h_ky, h_k1, h_fw, h_fr, h_ce, h_an, h_zn, h_rw, h_la, h_lo, h_lr, h_wa, h_wo, h_wx, h_wr, h_w3, h_w4, h_w8, h_w9, h_w5, h_t1, h_t2, h_t3, h_t6, h_t9, h_ty, h_xx, h_zr⟩ := zz
  have hst := (h_st id hv.1 hv.2.1).1
  have hhm := h_hm id hv
  have hsa := h_sa id hv
  have hsb := h_sb id hv
  obtain ⟨g1, g2, g3, g4, g5⟩ := R8
  -- where it waits
  obtain ⟨q, p, h4⟩ : ∃ q p, c.1 0 id 9 = 4 → c.2.2 0 id 5 = some q ∧ 0 ≤ q ∧ q < 6 ∧ q = 3 * m.1 135 0 (f id) + m.1 137 0 (f id) - 300 ∧ 0 ≤ p ∧ p < m.1 153 0 q ∧ m.1 153 0 q ≤ 72 ∧ m.1 152 0 (80 * q + p) = f id ∧ ∀ j, 0 ≤ j → j < m.1 153 0 q → j ≠ p → m.1 152 0 (80 * q + j) ≠ f id := by
    by_cases s4 : c.1 0 id 9 = 4
    · have hb : c.2.2 0 id 5 = some (3 * m.1 135 0 (f id) + m.1 137 0 (f id) - 300) := by
        rcases hsb with h | h | h | h | h
        · omega
        · omega
        · omega
        · omega
        · exact h.2.2.2.2.2.2
      obtain ⟨y1, y2, y3, y4, i, y5, y6, y7⟩ := R5.2.2.2.2.1 id _ hv s4 hb
      refine ⟨_, i, fun _ => ⟨hb, y1, y2, rfl, y5, y6, r_q_many hf R5 y1 y2, y7, fun j a b d e => ?_⟩⟩
      rcases Int.lt_or_gt_of_ne d with u | u
      · have := R5.2.2.2.1 _ j i id id y1 y2 a u y6 e y7; omega
      · have := R5.2.2.2.1 _ i j id id y1 y2 y5 u b y7 e; omega
    · exact ⟨0, 0, fun x => absurd x s4⟩
  obtain ⟨mX, x1, x2, x3⟩ := m_pre (why := why) (w' := w') hf hv R3 (at' := 5 * (m.1 12 0 90 % 300)) (by omega) rfl (fun s4 => by
    obtain ⟨_, _, _, y4, y5, y6, y7, y8, y9⟩ := h4 s4
    exact ⟨y4, y5, y6, y7, y8, y9⟩)
  have xo : ∀ k n j, w_pre k j = false → mX.1 k n j = m.1 k n j := fun k n j hk => by
    rw [x3, if_neg (fun z => by rw [z.1] at hk; cases hk), if_neg (fun z => by rw [z.1, z.2.2.1] at hk; cases hk), if_neg (fun z => by rw [z.1] at hk; cases hk), if_neg (fun z => by rw [z.1] at hk; cases hk)]
  have X1 : r_k N c mX := r_k_cg (fun _ _ _ _ => ⟨rfl, rfl⟩) (fun k n j hk => xo k n j (w_f1 k j hk)) R1
  have X2 : r_l X c mX := r_l_cg (fun _ _ _ _ => rfl) (fun k n j hk => xo k n j (w_f2 k j hk)) R2
  have X3 : r_h f N id z2 X sec Y zd c mX := r_h_cg (fun _ _ _ _ => ⟨rfl, rfl, rfl⟩) (fun k n j hk => xo k n j (w_f3 k j hk)) R3
  have X4 : ∀ e, e = 0 ∨ e = 1 → r_m B c mX e := fun e he => r_m_cg (fun _ _ _ _ => ⟨rfl, rfl⟩) (fun k n j k1 k2 => xo k n j (by simp [w_pre]; omega)) (R4 e he)
  have xs : ∀ k j, k ≠ 191 → k ≠ 12 → k ≠ 152 → k ≠ 153 → mX.1 k 0 j = m.1 k 0 j := fun k j a b d e => xo k 0 j (by simp [w_pre]; omega)
  obtain ⟨c2, m4, t1, t2, t3, t4, t5, t6, t7, t8, t9, t10⟩ := p_tells2 (w := w) (w' := w') hf (by omega) hw hv X1 X2 X3 X4 (by rw [xs 136 _ (by decide) (by decide) (by decide) (by decide), xs 137 _ (by decide) (by decide) (by decide) (by decide)]; exact hby) hXA hXB hTA hTB hcA hcB
  have c20 : ∀ n j, c2.1 0 n j = c.1 0 n j := fun n j => (t7 0 n j rfl).1
  have c20r : ∀ n j, c2.2.2 0 n j = c.2.2 0 n j := fun n j => (t7 0 n j rfl).2.2
  have c23 : ∀ n j, c2.1 3 n j = c.1 3 n j := fun n j => (t7 3 n j rfl).1
  have c2b : ∀ n j, c2.1 11 n j = c.1 11 n j := fun n j => (t7 11 n j rfl).1
  have c22 : ∀ n j, c2.1 2 n j = c.1 2 n j := fun n j => (t7 2 n j rfl).1
  have c2r : ∀ n j, c2.1 23 n j = c.1 23 n j := fun n j => (t7 23 n j rfl).1
  have c27 : ∀ n j, c2.1 27 n j = c.1 27 n j := fun n j => (t7 27 n j rfl).1
  have hrm : c.1 0 id 6 = -1 ∨ c.1 0 id 6 = 0 ∨ c.1 0 id 6 = 1 := by omega
  obtain ⟨c', d1, d2, d3⟩ := f_end38 c2 id (m.1 135 0 (f id)) (5 * (m.1 12 0 90 % 300)) (by rw [c20r]; exact hhm.1) (by rw [c20]; exact hrm) (by rw [c23]; omega) (by rw [c23, g3])
  have hrc : ∀ d, rcC c2 id d = rcC c id d := fun d => by
    unfold rcC lnA
    rw [c20, c20, c20, c2b, c20r]
    cases c.2.2 0 id 1 with
    | none => rfl
    | some l => simp only [(t7 4 l 0 rfl).1]
  simp only [c20, c20r, c23, c2b, c22, c2r, hrc] at d3
  have co : ∀ k n j, w_38 k j = false → c'.1 k n j = c2.1 k n j := fun k n j hk => by
    rw [d3, if_neg (fun z => by rw [z.1, z.2.2] at hk; cases hk), if_neg (fun z => by rw [z.1, z.2.2] at hk; cases hk), if_neg (fun z => by rw [z.1, z.2.1] at hk; cases hk), if_neg (fun z => by rw [z.1] at hk; cases hk), if_neg (fun z => by rw [z.1] at hk; cases hk), if_neg (fun z => by rw [z.1, z.2.2.1] at hk; cases hk)]
  have D0 : ∀ n j, c'.1 0 n j = if n = id ∧ j = 9 then -1 else c.1 0 n j := fun n j => by rw [d3]; simp [c20]
  have dR : ∀ k n j, c'.2.2 k n j = c2.2.2 k n j := fun k n j => by rw [d2]
  have dL : ∀ k n j, c'.2.1 k n j = c2.2.1 k n j := fun k n j => by rw [d2]
  have hv2 : lv c2 id := ⟨hv.1, hv.2.1, by rw [c20]; exact hv.2.2⟩
  have M4 : ∀ k j, w_tells k j = false → k ≠ 191 → k ≠ 12 → k ≠ 152 → k ≠ 153 → m4.1 k 0 j = m.1 k 0 j := fun k j a b d e g => by rw [(t8 k 0 j a).1, xs k j b d e g]
  have hsc : so w_end c c' := fun k n j hk => by
    have hk2 := w_f10 k j hk
    exact ⟨by rw [co k n j (w_f9 k j hk), (t7 k n j hk2).1], by rw [dL]; exact (t7 k n j hk2).2.1, by rw [dR]; exact (t7 k n j hk2).2.2⟩
  have hsm : so w_ends m (sI m4 133 0 (f id) (-1)) := so_I (fun k n j hk => by
    have hk2 := w_f12 k j hk
    exact ⟨by rw [(t8 k n j hk2).1, xo k n j (w_f11 k j hk)], by rw [(t8 k n j hk2).2.1, x2], by rw [(t8 k n j hk2).2.2, x2]⟩) rfl _ _
  refine ⟨c', sI m4 133 0 (f id) (-1), by rw [t1, d1], ?_, ⟨?_, ?_, ?_, ?_, ?_, ?_, ?_, ?_, ?_, ?_⟩, hsc, hsm, D0⟩
  · rw [x1, t2]
    unfold F12_over_92
    rw [g_t hfr, lt_d]
  · exact r_k_cg (fun k n j hk => ⟨co k n j (w_f4 k j hk), dR k n j⟩) (fun k n j hk => by rw [rI_I, if_neg (fun z => w_f13 k j hk z.1)]) t3
  · exact r_l_cg (fun k n j hk => co k n j (w_f5 k j hk)) (fun k n j hk => by rw [rI_I, if_neg (fun z => w_f14 k hk z.1)]) t4
  · have := t_dead (z := z) hf hv2 t5 hsec t9 t10
    refine r_h_cg (c := sI c2 0 id 9 (-1)) (fun k n j hk => ⟨?_, dL k n j, dR k n j⟩) (fun _ _ _ _ => rfl) this
    rw [rI_I]
    by_cases w : k = 0 ∧ n = id ∧ j = 9
    · rw [if_pos w, d3, if_pos w]
    · rw [if_neg w]
      by_cases w2 : k = 0
      · subst w2
        rw [D0, if_neg (fun z => w ⟨rfl, z⟩), c20]
      · exact co k n j (by simp [rdC] at hk; simp [w_38]; omega)
  · exact r_m_mono (by omega) (fun e he => r_m_cg (fun k n j hk => ⟨by rcases hk with rfl | rfl <;> exact co _ n j rfl, dL k n j⟩) (fun k n j k1 k2 => by rw [rI_I, if_neg (by omega)]) (t6 e he))
  · refine r_q_mono (B := B) (by omega) ?_
    have k0r : ∀ n j, c'.2.2 0 n j = c.2.2 0 n j := fun n j => by rw [dR, c20r]
    have k25 : ∀ n j, c'.2.2 25 n j = c.2.2 25 n j := fun n j => by rw [dR]; exact (t7 25 n j rfl).2.2
    by_cases s4 : c.1 0 id 9 = 4
    · obtain ⟨y1, y2, y3, y4, y5, y6, y7, y8, y9⟩ := h4 s4
      have hw3 : w32 (c.1 2 q 3 - 1) = c.1 2 q 3 - 1 := by
        have := (R5.1 q).2.2
        exact w32_of (by omega) (by omega)
      refine q_leave hf R5 hv s4 y1 y2 y3 y5 y6 y8 D0 k0r (fun n j => ?_) k25 (fun k j a b => ?_) (fun j => ?_) (fun j => ?_)
      · by_cases z : n = q ∧ j = 3
        · rw [if_pos z, d3, if_neg (by omega), if_neg (by omega), if_pos ⟨rfl, z.2, s4, by rw [y1, z.1]⟩, z.1, hw3]
        · rw [if_neg z, d3, if_neg (by omega), if_neg (by omega), if_neg (fun w => z ⟨by have := w.2.2.2; rw [y1] at this; cases this; rfl, w.2.1⟩), if_neg (by omega), if_neg (by omega), if_neg (by omega), c22]
      · rw [rI_I, if_neg (by omega)]
        rcases (by omega : k = 149 ∨ k = 150 ∨ k = 151) with rfl | rfl | rfl
        · exact M4 149 j rfl (by decide) (by decide) (by decide) (by decide)
        · exact M4 150 j rfl (by decide) (by decide) (by decide) (by decide)
        · exact M4 151 j rfl (by decide) (by decide) (by decide) (by decide)
      · rw [rI_I, if_neg (by omega), (t8 152 0 j rfl).1, x3]
        simp [s4]
      · rw [rI_I, if_neg (by omega), (t8 153 0 j rfl).1, x3]
        simp [s4]
    · refine q_dead R5 D0 k0r (fun n j => ?_) k25 s4 (fun k j a b => ?_)
      · rw [d3]
        simp [s4, c22]
      · rw [rI_I, if_neg (by omega)]
        rcases (by omega : k = 149 ∨ k = 150 ∨ k = 151 ∨ k = 152 ∨ k = 153) with rfl | rfl | rfl | rfl | rfl
        all_goals
          rw [(t8 _ 0 j rfl).1, x3]
          simp [s4]
  · refine rr_dead hf R6 hv hst (fun j => ?_) (fun j => ?_) (fun j => ?_) (fun e r he hr => ?_) ?_
    · rw [rI_I, M4 133 j rfl (by decide) (by decide) (by decide) (by decide)]; simp
    · rw [rI_I, if_neg (by omega)]; exact M4 135 j rfl (by decide) (by decide) (by decide) (by decide)
    · rw [rI_I, if_neg (by omega)]; exact M4 137 j rfl (by decide) (by decide) (by decide) (by decide)
    · have hb := cn_b (fun s => decide (m.1 133 0 s = 3 ∧ m.1 135 0 s = e ∧ m.1 137 0 s = 200 + r)) 80
      have hb2 : c.1 23 e r = cn (fun s => decide (m.1 133 0 s = 3 ∧ m.1 135 0 s = e ∧ m.1 137 0 s = 200 + r)) 80 := R6.1 e r he hr
      have hw3 : w32 (c.1 23 e r - 1) = c.1 23 e r - 1 := w32_of (by omega) (by omega)
      by_cases w : c.1 0 id 9 = 3 ∧ m.1 135 0 (f id) = e ∧ m.1 137 0 (f id) = 200 + r
      · obtain ⟨w1, w2, w3⟩ := w
        have hN : N ≤ 16 := R1.2.2.2.1
        have w4 : c.1 0 id 6 = r := by omega
        rw [if_pos ⟨w1, w2, w3⟩, d3, if_neg (by omega), if_neg (by omega), if_neg (by omega), if_pos ⟨rfl, w2.symm, w4.symm, by omega⟩, w2, w4, hw3]
      · rw [if_neg w, d3, if_neg (by omega), if_neg (by omega), if_neg (by omega), if_neg (fun z => w (by have z1 := z.2.1; have z2 := z.2.2.1; have z3 := z.2.2.2; omega)), if_neg (by omega), if_neg (by omega), c2r]
        omega
    · have hb := cn_b (fun s => decide (m.1 133 0 s ≠ -1)) 80
      have hb2 : c.1 11 0 13 = cn (fun s => decide (m.1 133 0 s ≠ -1)) 80 := R6.2.1
      rw [d3]
      simp
      exact w32_of (by omega) (by omega)
  · refine r_a_mono (by omega) (a_dead R7 (id := id) (fun n => by rw [D0]; simp) (fun j => by rw [dR]; exact (t7 40 0 j rfl).2.2) (by rw [d3]; simp [c2b]) (by rw [d3]; simp [c2b]) (fun j => ?_) ?_)
    · rw [rI_I, if_neg (by omega)]; exact M4 134 j rfl (by decide) (by decide) (by decide) (by decide)
    · rw [rI_I, if_neg (by omega), (t8 12 0 32 rfl).1, x3]
      simp
  · refine ⟨?_, ?_, ?_⟩
    · intro y y0 y1
      have := g1 y y0 y1
      simp only [rI_I]
      rw [d3, d3, d3, d3, (t7 26 0 _ rfl).1, (t7 26 0 _ rfl).1, (t7 26 0 _ rfl).1, (t7 26 0 _ rfl).1, M4 186 y rfl (by decide) (by decide) (by decide) (by decide), M4 187 y rfl (by decide) (by decide) (by decide) (by decide), M4 188 y rfl (by decide) (by decide) (by decide) (by decide), M4 189 y rfl (by decide) (by decide) (by decide) (by decide)]
      simpa using this
    · intro j
      have e0 : c.1 0 id 9 = 3 → c.2.2 0 id 1 ≠ none → ∀ d, rcM m (f id) d = rcC c id d := fun s3 hl d => by
        have a1 : lnA c id = m.1 136 0 (f id) := by
          rcases hsa with ⟨a1, a2, a3, a4⟩ | ⟨a1, a2, a3, a4⟩
          · unfold lnA
            rw [a1]
            exact R1.2.2.2.2.2.2.2.2.2.2.2.1 _ (by omega) (by omega)
          · exact absurd a1 hl
        have a2 := h_zn id hv hl
        have a3 := (h_fr id hv).2 s3
        have a4 := h_ce id hv
        have a5 : m.1 12 0 2 = c.1 11 0 10 := R1.2.2.2.2.2.2.2.1
        unfold rcM rcC
        rw [a1, a3, a4, a5, show m.1 143 0 (f id) = c.1 0 id 11 by omega]
      rw [rI_I, if_neg (by omega), (t8 191 0 j rfl).1, x3]
      by_cases w : 5 * (m.1 12 0 90 % 300) ≤ j ∧ j < 5 * (m.1 12 0 90 % 300) + 5 ∧ c.1 0 id 9 = 3 ∧ c.2.2 0 id 1 ≠ none
      · rw [if_pos ⟨rfl, rfl, w⟩, d3, if_neg (by omega), if_neg (by omega), if_neg (by omega), if_neg (by omega), if_pos ⟨rfl, rfl, w⟩]
        exact e0 w.2.2.1 w.2.2.2 _
      · rw [if_neg (fun z => w z.2.2), if_neg (by omega), if_neg (by omega), if_neg (by omega), d3, if_neg (by omega), if_neg (by omega), if_neg (by omega), if_neg (by omega), if_neg (fun z => w z.2.2), if_neg (by omega), c27]
        exact g2 j
    · rw [rI_I, if_neg (by omega), (t8 12 0 90 rfl).1, x3, d3]
      by_cases w : c.1 0 id 9 = 3 ∧ c.2.2 0 id 1 ≠ none
      · rw [if_neg (by omega), if_pos ⟨rfl, rfl, rfl, w⟩, if_neg (by omega), if_neg (by omega), if_neg (by omega), if_neg (by omega), if_neg (by omega), if_pos ⟨rfl, rfl, rfl, w⟩]
        omega
      · rw [if_neg (by omega), if_neg (fun z => w z.2.2.2), if_neg (by omega), if_neg (by omega), if_neg (by omega), if_neg (by omega), if_neg (by omega), if_neg (by omega), if_neg (by omega), if_neg (fun z => w z.2.2.2), c23]
        omega
  · exact r_p_cg (fun k n j hk => ⟨by rw [co k n j (w_f6 k j hk), (t7 k n j (w_f7 k j hk)).1], by rw [dL]; exact (t7 k n j (w_f7 k j hk)).2.1, by rw [dR]; exact (t7 k n j (w_f7 k j hk)).2.2⟩) (fun k n j hk => (hsm k n j (w_f8 k j hk)).1) R9
  · exact r_f_cg (fun k n j hk => ⟨by rw [co k n j (w_f6 k j hk), (t7 k n j (w_f7 k j hk)).1], by rw [dL]; exact (t7 k n j (w_f7 k j hk)).2.1, by rw [dR]; exact (t7 k n j (w_f7 k j hk)).2.2⟩) (fun k n j hk => (hsm k n j (w_f8 k j hk)).1) R10
end RX
