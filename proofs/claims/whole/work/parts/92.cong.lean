/-! ===== keeping the rest; announcing ===== -/
/-- what calls, lines' and circuits' references may change (class, reference) -/
def w_h (k : Nat) (j : Int) : Bool := k == 0 || (k == 4 && (j == 11 || j == 12 || j == 13)) || (k == 8 && (j == 2 || j == 3))
def w_hm (k : Nat) (_ : Int) : Bool := k == 119 || k == 120 || k == 121 || k == 133 || (decide (135 ≤ k) && decide (k ≤ 148)) || k == 154 || k == 155
def w_msg (k : Nat) (j : Int) : Bool := k == 156 || k == 158 || k == 159 || k == 160 || (k == 12 && j == 57)
/-- what the whole layer of calls may change -/
def w_C (k : Nat) (j : Int) : Bool := k == 0 || (k == 2 && (j == 3 || j == 4 || j == 5)) || (k == 3 && j == 2) || (k == 4 && (j == 7 || j == 11 || j == 12 || j == 13 || j == 14 || j == 15 || j == 16 || j == 17)) || k == 5 || (k == 8 && (j == 2 || j == 3)) || (k == 11 && j == 13) || k == 23 || k == 27 || k == 31
def w_M (k : Nat) (j : Int) : Bool := (decide (119 ≤ k) && decide (k ≤ 126)) || k == 133 || (decide (135 ≤ k) && decide (k ≤ 148)) || (decide (152 ≤ k) && decide (k ≤ 156)) || k == 158 || k == 159 || k == 160 || k == 191 || (k == 12 && (j == 57 || j == 90))
theorem w_b1 : ∀ k j, w_C k j = false → w_h k j = false := by intro k j; simp [w_C, w_h]; omega
theorem w_b2 : ∀ k j, w_M k j = false → w_hm k j = false := by intro k j; simp [w_M, w_hm]; omega
theorem w_b3 : ∀ k j, w_C k j = false → w_post k j = false := by intro k j; simp [w_C, w_post]; omega
theorem w_b4 : ∀ k j, w_M k j = false → w_msg k j = false := by intro k j; simp [w_M, w_msg]; omega
theorem w_b5 : ∀ k j, w_C k j = false → w_end k j = false := by intro k j; simp [w_C, w_end]; omega
theorem w_b6 : ∀ k j, w_M k j = false → w_ends k j = false := by intro k j; simp [w_M, w_ends]; omega
theorem w_b7 : ∀ k j, rkC k j = true → w_h k j = false := by intro k j; simp [rkC, w_h]; omega
theorem w_b8 : ∀ k j, rkM k j = true → w_hm k j = false := by intro k j; simp [rkM, w_hm]; omega
theorem w_b9 : ∀ k j, rlC k j = true → w_h k j = false := by intro k j; simp [rlC, w_h]; omega
theorem w_b10 : ∀ k (j : Int), rlM k = true → w_hm k j = false := by intro k j; simp [rlM, w_hm]; omega
theorem w_b11 : ∀ k j, rpC k j = true → w_h k j = false := by intro k j; simp [rpC, w_h]; omega
theorem w_b12 : ∀ k (j : Int), rpM k = true → w_hm k j = false := by intro k j; simp [rpM, w_hm]; omega
theorem w_c1 : ∀ k j, rdC k j = true → w_post k j = false := w_a3
theorem w_c2 : ∀ k (j : Int), rdM k = true → w_msg k j = false := by intro k j; simp [rdM, w_msg]; omega
theorem w_c3 : ∀ k j, rkC k j = true → w_post k j = false := by intro k j; simp [rkC, w_post]; omega
theorem w_c4 : ∀ k j, rkM k j = true → w_msg k j = false := by intro k j; simp [rkM, w_msg]; omega
theorem w_c5 : ∀ k j, rlC k j = true → w_post k j = false := w_a7
theorem w_c6 : ∀ k (j : Int), rlM k = true → w_msg k j = false := by intro k j; simp [rlM, w_msg]; omega
theorem w_c7 : ∀ k j, rpC k j = true → w_post k j = false := by intro k j; simp [rpC, w_post]; omega
theorem w_c8 : ∀ k (j : Int), rpM k = true → w_msg k j = false := by intro k j; simp [rpM, w_msg]; omega
section RZ
variable {f : Int → Int} {N z1 z2 X : Int} {sec : Option Int} {Y zd : Int} {c m c' m' : JM} {B B' : Int} {H : HT}
theorem q_cg (R : r_q f B c m) (k4 : ∀ n, (c'.1 0 n 9 = 4 ↔ c.1 0 n 9 = 4) ∧ (c.1 0 n 9 = 4 → c'.2.2 0 n 5 = c.2.2 0 n 5 ∧ c'.1 0 n 14 = c.1 0 n 14)) (hf : f_ok f) (k2 : ∀ n j, c'.1 2 n j = c.1 2 n j) (k25 : ∀ n j, c'.2.2 25 n j = c.2.2 25 n j) (km : ∀ k j, 149 ≤ k → k ≤ 153 → m'.1 k 0 j = m.1 k 0 j) : r_q f B c' m' := by
  have b9 : ∀ j, m'.1 149 0 j = m.1 149 0 j := fun j => km 149 j (by omega) (by omega)
  have b0 : ∀ j, m'.1 150 0 j = m.1 150 0 j := fun j => km 150 j (by omega) (by omega)
  have b1 : ∀ j, m'.1 151 0 j = m.1 151 0 j := fun j => km 151 j (by omega) (by omega)
  have b2 : ∀ j, m'.1 152 0 j = m.1 152 0 j := fun j => km 152 j (by omega) (by omega)
  have b3 : ∀ j, m'.1 153 0 j = m.1 153 0 j := fun j => km 153 j (by omega) (by omega)
  obtain ⟨h1, h2, h3, h4, h5, h6⟩ := R
  unfold r_q
  simp only [k2, k25, b9, b0, b1, b2, b3]
  refine ⟨h1, h2, ?_, ?_, ?_, h6⟩
  · intro q q0 q1
    refine ⟨(h3 q q0 q1).1, fun i i0 i1 => ?_⟩
    obtain ⟨x, x1, x2, x3, x4⟩ := (h3 q q0 q1).2 i i0 i1
    have y := k4 x
    exact ⟨x, ⟨x1.1, x1.2.1, by rw [y.1.2 x2]; decide⟩, y.1.2 x2, by rw [(y.2 x2).1, x3], x4⟩
  · intro q i j a b q0 q1 i0 ij j1 e1 e2
    obtain ⟨x, x1, x2, x3, x4⟩ := (h3 q q0 q1).2 i i0 (by omega)
    obtain ⟨y, y1, y2, y3, y4⟩ := (h3 q q0 q1).2 j (by omega) j1
    have ha : a = x := hf.1 _ _ (e1.symm.trans x4)
    have hb : b = y := hf.1 _ _ (e2.symm.trans y4)
    subst ha hb
    rw [((k4 a).2 x2).2, ((k4 b).2 y2).2]
    exact h4 q i j a b q0 q1 i0 ij j1 e1 e2
  · intro x q x1 x2 x3
    have y := k4 x
    have x2' := y.1.1 x2
    rw [(y.2 x2').1] at x3
    rw [(y.2 x2').2]
    exact h5 x q ⟨x1.1, x1.2.1, by rw [x2']; decide⟩ x2' x3
theorem rr_cg (R : r_r c m) (h3 : ∀ s, 0 ≤ s → s < 80 → (m'.1 133 0 s = -1 ↔ m.1 133 0 s = -1) ∧ ∀ e r, e = 0 ∨ e = 1 → r = 0 ∨ r = 1 → ((m'.1 133 0 s = 3 ∧ m'.1 135 0 s = e ∧ m'.1 137 0 s = 200 + r) ↔ (m.1 133 0 s = 3 ∧ m.1 135 0 s = e ∧ m.1 137 0 s = 200 + r))) (k23 : ∀ e r, c'.1 23 e r = c.1 23 e r) (k13 : c'.1 11 0 13 = c.1 11 0 13) : r_r c' m' := by
  refine ⟨?_, ?_, fun e r he hr => by rw [k23]; exact R.2.2 e r he hr⟩
  · intro e r he hr
    rw [k23, R.1 e r he hr]
    exact (cn_eq (fun i a b => decide_eq_decide.2 ((h3 i a (by omega)).2 e r he hr))).symm
  · rw [k13, R.2.1]
    exact (cn_eq (fun i a b => decide_eq_decide.2 (not_congr (h3 i a (by omega)).1))).symm
theorem a_cg {HH : HT} (R : r_a f B HH c m) (k0 : ∀ n, (c'.1 0 n 9 = -1 ↔ c.1 0 n 9 = -1)) (k40 : ∀ j, c'.2.2 40 0 j = c.2.2 40 0 j) (k11 : c'.1 11 0 11 = c.1 11 0 11) (k12 : c'.1 11 0 12 = c.1 11 0 12) (m1 : ∀ j, m'.1 134 0 j = m.1 134 0 j) (m2 : m'.1 12 0 32 = m.1 12 0 32) : r_a f B HH c' m' := by
  have hl : ∀ i, lv c' i ↔ lv c i := fun i => by unfold lv; rw [Ne, Ne, k0]
  unfold r_a at R ⊢
  simp only [k40, k11, k12, m1, m2, hl, k0]
  exact R
theorem g_cg (R : r_g B c m) (a : ∀ j, c'.1 26 0 j = c.1 26 0 j) (b : ∀ j, c'.1 27 0 j = c.1 27 0 j) (d : c'.1 3 0 2 = c.1 3 0 2) (e : ∀ k j, 186 ≤ k → k ≤ 191 → m'.1 k 0 j = m.1 k 0 j) (g : m'.1 12 0 90 = m.1 12 0 90) : r_g B c' m' := by
  unfold r_g at R ⊢
  simp only [a, b, d, g, e 186 _ (by decide) (by decide), e 187 _ (by decide) (by decide), e 188 _ (by decide) (by decide), e 189 _ (by decide) (by decide), e 191 _ (by decide) (by decide)]
  exact R
/-- a step in calls, their lines and circuits alone -/
theorem rel_h {z1' z2' : Int} {sec' : Option Int} {Y' zd' : Int} (hf : f_ok f) (R : rel f N z1 z2 X sec Y zd B H c m) (hh : r_h f N z1' z2' X sec' Y' zd' c' m') (sc : so w_h c c') (sm : so w_hm m m')
    (k4 : ∀ n, (c'.1 0 n 9 = 4 ↔ c.1 0 n 9 = 4) ∧ (c.1 0 n 9 = 4 → c'.2.2 0 n 5 = c.2.2 0 n 5 ∧ c'.1 0 n 14 = c.1 0 n 14) ∧ (c'.1 0 n 9 = -1 ↔ c.1 0 n 9 = -1))
    (k3 : ∀ s, 0 ≤ s → s < 80 → (m'.1 133 0 s = -1 ↔ m.1 133 0 s = -1) ∧ ∀ e r, e = 0 ∨ e = 1 → r = 0 ∨ r = 1 → ((m'.1 133 0 s = 3 ∧ m'.1 135 0 s = e ∧ m'.1 137 0 s = 200 + r) ↔ (m.1 133 0 s = 3 ∧ m.1 135 0 s = e ∧ m.1 137 0 s = 200 + r))) :
    rel f N z1' z2' X sec' Y' zd' B H c' m' := by
  obtain ⟨R1, R2, R3, R4, R5, R6, R7, R8, R9, R10⟩ := R
  refine ⟨?_, ?_, hh, ?_, ?_, ?_, ?_, ?_, ?_, ?_⟩
  · exact r_k_cg (fun k n j q => ⟨(sc k n j (w_b7 k j q)).1, (sc k n j (w_b7 k j q)).2.2⟩) (fun k n j q => (sm k n j (w_b8 k j q)).1) R1
  · exact r_l_cg (fun k n j q => (sc k n j (w_b9 k j q)).1) (fun k n j q => (sm k n j (w_b10 k j q)).1) R2
  · exact fun e he => r_m_cg (fun k n j q => by rcases q with rfl | rfl <;> exact ⟨(sc _ n j rfl).1, (sc _ n j rfl).2.1⟩) (fun k n j a b => (sm k n j (by simp [w_hm]; omega)).1) (R4 e he)
  · exact q_cg R5 (fun n => ⟨(k4 n).1, (k4 n).2.1⟩) hf (fun n j => (sc 2 n j rfl).1) (fun n j => (sc 25 n j rfl).2.2) (fun k j a b => (sm k 0 j (by simp [w_hm]; omega)).1)
  · exact rr_cg R6 k3 (fun e r => (sc 23 e r rfl).1) (sc 11 0 13 rfl).1
  · exact a_cg R7 (fun n => (k4 n).2.2) (fun j => (sc 40 0 j rfl).2.2) (sc 11 0 11 rfl).1 (sc 11 0 12 rfl).1 (fun j => (sm 134 0 j rfl).1) (sm 12 0 32 rfl).1
  · exact g_cg R8 (fun j => (sc 26 0 j rfl).1) (fun j => (sc 27 0 j rfl).1) (sc 3 0 2 rfl).1 (fun k j a b => (sm k 0 j (by simp [w_hm]; omega)).1) (sm 12 0 90 rfl).1
  · exact r_p_cg (fun k n j q => sc k n j (w_b11 k j q)) (fun k n j q => (sm k n j (w_b12 k j q)).1) R9
  · exact r_f_cg (fun k n j q => sc k n j (w_b11 k j q)) (fun k n j q => (sm k n j (w_b12 k j q)).1) R10
/-- a message was posted -/
theorem rel_post (hf : f_ok f) (R : rel f N z1 z2 X sec Y zd B H c m) (sc : so w_post c c') (sm : so w_msg m m') (hb : B ≤ B') (R4 : ∀ e, e = 0 ∨ e = 1 → r_m B' c' m' e) : rel f N z1 z2 X sec Y zd B' H c' m' := by
  obtain ⟨R1, R2, R3, _, R5, R6, R7, R8, R9, R10⟩ := R
  have c0 : ∀ n j, c'.1 0 n j = c.1 0 n j := fun n j => (sc 0 n j rfl).1
  refine ⟨?_, ?_, ?_, R4, ?_, ?_, ?_, ?_, ?_, ?_⟩
  · exact r_k_cg (fun k n j q => ⟨(sc k n j (w_c3 k j q)).1, (sc k n j (w_c3 k j q)).2.2⟩) (fun k n j q => (sm k n j (w_c4 k j q)).1) R1
  · exact r_l_cg (fun k n j q => (sc k n j (w_c5 k j q)).1) (fun k n j q => (sm k n j (w_c6 k j q)).1) R2
  · exact r_h_cg (fun k n j q => sc k n j (w_c1 k j q)) (fun k n j q => (sm k n j (w_c2 k j q)).1) R3
  · exact r_q_mono hb (q_cg R5 (fun n => by rw [c0, c0, (sc 0 n 5 rfl).2.2]; simp) hf (fun n j => (sc 2 n j rfl).1) (fun n j => (sc 25 n j rfl).2.2) (fun k j a b => (sm k 0 j (by simp [w_msg]; omega)).1))
  · exact rr_cg R6 (fun s a b => by rw [(sm 133 0 s rfl).1, (sm 135 0 s rfl).1, (sm 137 0 s rfl).1]; simp) (fun e r => (sc 23 e r rfl).1) (sc 11 0 13 rfl).1
  · exact r_a_mono hb (a_cg R7 (fun n => by rw [c0]) (fun j => (sc 40 0 j rfl).2.2) (sc 11 0 11 rfl).1 (sc 11 0 12 rfl).1 (fun j => (sm 134 0 j rfl).1) (sm 12 0 32 rfl).1)
  · exact r_g_mono hb (g_cg R8 (fun j => (sc 26 0 j rfl).1) (fun j => (sc 27 0 j rfl).1) (sc 3 0 2 rfl).1 (fun k j a b => (sm k 0 j (by simp [w_msg]; omega)).1) (sm 12 0 90 rfl).1)
  · exact r_p_cg (fun k n j q => sc k n j (w_c7 k j q)) (fun k n j q => (sm k n j (w_c8 k j q)).1) R9
  · exact r_f_cg (fun k n j q => sc k n j (w_c7 k j q)) (fun k n j q => (sm k n j (w_c8 k j q)).1) R10

theorem t_ann (hf : f_ok f) {id : Int} (hv : lv c id) (HH : r_h f N z1 z2 X sec Y zd c m) (a : Int) (ha : a = 0 ∨ a = 1) (ha2 : c.2.2 0 id 2 ≠ none → a = 1) : r_h f N z1 z2 X sec Y zd (sI c 0 id 15 a) (sI m 148 0 (f id) a) := by
  have inj := hf.1
  have hlv : ∀ i, lv (sI c 0 id 15 a) i ↔ lv c i := fun i => by simp [lv, rI_I]
  obtain ⟨h_st, h_sx, h_hm, h_sa, h_sb, h_gp, h_ky, h_k1, h_fw, h_fr, h_ce, h_an, h_zn, h_rw, h_la, h_lo, h_lr, h_wa, h_wo, h_wx, h_wr, h_w3, h_w4, h_w8, h_w9, h_w5, h_t1, h_t2, h_t3, h_t6, h_t9, h_ty, h_xx, h_zr⟩ := HH
  refine ⟨?_, ?_, ?_, ?_, ?_, ?_, ?_, ?_, ?_, ?_, ?_, ?_, ?_, ?_, ?_, ?_, ?_, ?_, ?_, ?_, ?_, ?_, ?_, ?_, ?_, ?_, ?_, ?_, ?_, ?_, ?_, ?_, ?_, ?_⟩
  · -- st
    simpa [d_st, lv, rI_I, rI_L, rI_R, rL_I, rL_L, rL_R, rR_I, rR_L, rR_R] using h_st
  · -- sx
    simpa [d_sx, lv, rI_I, rI_L, rI_R, rL_I, rL_L, rL_R, rR_I, rR_L, rR_R] using h_sx
  · -- hm
    simpa [d_hm, lv, rI_I, rI_L, rI_R, rL_I, rL_L, rL_R, rR_I, rR_L, rR_R] using h_hm
  · -- sa
    simpa [d_sa, lv, rI_I, rI_L, rI_R, rL_I, rL_L, rL_R, rR_I, rR_L, rR_R] using h_sa
  · -- sb
    simpa [d_sb, lv, rI_I, rI_L, rI_R, rL_I, rL_L, rL_R, rR_I, rR_L, rR_R] using h_sb
  · -- gp
    simpa [d_gp, lv, rI_I, rI_L, rI_R, rL_I, rL_L, rL_R, rR_I, rR_L, rR_R] using h_gp
  · -- ky
    simpa [d_ky, lv, rI_I, rI_L, rI_R, rL_I, rL_L, rL_R, rR_I, rR_L, rR_R] using h_ky
  · -- k1
    simpa [d_k1, lv, rI_I, rI_L, rI_R, rL_I, rL_L, rL_R, rR_I, rR_L, rR_R] using h_k1
  · -- fw
    simpa [d_fw, lv, rI_I, rI_L, rI_R, rL_I, rL_L, rL_R, rR_I, rR_L, rR_R] using h_fw
  · -- fr
    simpa [d_fr, lv, rI_I, rI_L, rI_R, rL_I, rL_L, rL_R, rR_I, rR_L, rR_R] using h_fr
  · -- ce
    simpa [d_ce, lv, rI_I, rI_L, rI_R, rL_I, rL_L, rL_R, rR_I, rR_L, rR_R] using h_ce
  · -- an
    simp only [d_an, lv, rI_I, rI_L, rI_R, rL_I, rL_L, rL_R, rR_I, rR_L, rR_R] at h_an ⊢; grind [rf]
  · -- zn
    simpa [d_zn, lv, rI_I, rI_L, rI_R, rL_I, rL_L, rL_R, rR_I, rR_L, rR_R] using h_zn
  · -- rw
    simpa [d_rw, lv, rI_I, rI_L, rI_R, rL_I, rL_L, rL_R, rR_I, rR_L, rR_R] using h_rw
  · -- la
    simpa [d_la, lv, rI_I, rI_L, rI_R, rL_I, rL_L, rL_R, rR_I, rR_L, rR_R] using h_la
  · -- lo
    simpa [d_lo, lv, rI_I, rI_L, rI_R, rL_I, rL_L, rL_R, rR_I, rR_L, rR_R] using h_lo
  · -- lr
    simpa [d_lr, lv, rI_I, rI_L, rI_R, rL_I, rL_L, rL_R, rR_I, rR_L, rR_R] using h_lr
  · -- wa
    simpa [d_wa, lv, rI_I, rI_L, rI_R, rL_I, rL_L, rL_R, rR_I, rR_L, rR_R] using h_wa
  · -- wo
    simpa [d_wo, lv, rI_I, rI_L, rI_R, rL_I, rL_L, rL_R, rR_I, rR_L, rR_R] using h_wo
  · -- wx
    simpa [d_wx, lv, rI_I, rI_L, rI_R, rL_I, rL_L, rL_R, rR_I, rR_L, rR_R] using h_wx
  · -- wr
    simpa [d_wr, lv, rI_I, rI_L, rI_R, rL_I, rL_L, rL_R, rR_I, rR_L, rR_R] using h_wr
  · -- w3
    simpa [d_w3, lv, rI_I, rI_L, rI_R, rL_I, rL_L, rL_R, rR_I, rR_L, rR_R] using h_w3
  · -- w4
    simpa [d_w4, lv, rI_I, rI_L, rI_R, rL_I, rL_L, rL_R, rR_I, rR_L, rR_R] using h_w4
  · -- w8
    simpa [d_w8, lv, rI_I, rI_L, rI_R, rL_I, rL_L, rL_R, rR_I, rR_L, rR_R] using h_w8
  · -- w9
    simpa [d_w9, lv, rI_I, rI_L, rI_R, rL_I, rL_L, rL_R, rR_I, rR_L, rR_R] using h_w9
  · -- w5
    simpa [d_w5, lv, rI_I, rI_L, rI_R, rL_I, rL_L, rL_R, rR_I, rR_L, rR_R] using h_w5
  · -- t1
    simpa [d_t1, lv, rI_I, rI_L, rI_R, rL_I, rL_L, rL_R, rR_I, rR_L, rR_R] using h_t1
  · -- t2
    simpa [d_t2, lv, rI_I, rI_L, rI_R, rL_I, rL_L, rL_R, rR_I, rR_L, rR_R] using h_t2
  · -- t3
    simpa [d_t3, lv, rI_I, rI_L, rI_R, rL_I, rL_L, rL_R, rR_I, rR_L, rR_R] using h_t3
  · -- t6
    simpa [d_t6, lv, rI_I, rI_L, rI_R, rL_I, rL_L, rL_R, rR_I, rR_L, rR_R] using h_t6
  · -- t9
    simpa [d_t9, lv, rI_I, rI_L, rI_R, rL_I, rL_L, rL_R, rR_I, rR_L, rR_R] using h_t9
  · -- ty
    simpa [d_ty, lv, rI_I, rI_L, rI_R, rL_I, rL_L, rL_R, rR_I, rR_L, rR_R] using h_ty
  · -- xx
    simpa [d_xx, lv, rI_I, rI_L, rI_R, rL_I, rL_L, rL_R, rR_I, rR_L, rR_R] using h_xx
  · -- zr
    simpa [d_zr, lv, rI_I, rI_L, rI_R, rL_I, rL_L, rL_R, rR_I, rR_L, rR_R] using h_zr

theorem rel_ann (hf : f_ok f) {id : Int} (hv : lv c id) (R : rel f N z1 z2 X sec Y zd B H c m) (a : Int) (ha : a = 0 ∨ a = 1) (ha2 : c.2.2 0 id 2 ≠ none → a = 1) : rel f N z1 z2 X sec Y zd B H (sI c 0 id 15 a) (sI m 148 0 (f id) a) := by
  refine rel_h hf R (t_ann hf hv R.2.2.1 a ha ha2) (so_I (so_rfl c) rfl _ _) (so_I (so_rfl m) rfl _ _) (fun n => ?_) (fun s s0 s1 => ?_)
  · simp [rI_I, rI_R]
  · simp [rI_I]
/-- the sides of a call that announcing looks at -/
def s_A (N id s : Int) (c m : JM) : Prop := 0 ≤ s ∧ s < 80 ∧ (m.1 135 0 s = 0 ∨ m.1 135 0 s = 1) ∧ c.2.2 0 id 0 = some (m.1 135 0 s) ∧ ((c.2.2 0 id 2 = none ∧ 0 ≤ m.1 136 0 s ∧ m.1 136 0 s < 16) ∨ (c.2.2 0 id 2 = some (16 * m.1 135 0 s + m.1 136 0 s - 100) ∧ 100 ≤ m.1 136 0 s ∧ m.1 136 0 s < 100 + N ∧ N ≤ 16 ∧ c.1 8 (16 * m.1 135 0 s + m.1 136 0 s - 100) 0 = m.1 136 0 s - 100))
theorem s_A_of (hf : f_ok f) {id : Int} (hv : lv c id) (K : r_k N c m) (HH : r_h f N z1 z2 X sec Y zd c m) : s_A N id (f id) c m := by
  have hfr := hf.2.2.1 id hv.1 (by have := hv.2.1; omega)
  have h1 := HH.2.2.1 id hv
  have h2 := HH.2.2.2.1 id hv
  obtain ⟨_, _, k3, k4, _, _, _, _, _, _, _, _, k13⟩ := K
  refine ⟨hfr.1, hfr.2, h1.2, h1.1, ?_⟩
  rcases h2 with ⟨a, b, d, e⟩ | ⟨a, b, d, e⟩
  · exact Or.inl ⟨b, by omega, by omega⟩
  · refine Or.inr ⟨b, d, e, k4, ?_⟩
    have := (k13 (m.1 135 0 (f id)) (m.1 136 0 (f id) - 100) h1.2 (by omega) (by omega)).1
    rw [show 16 * m.1 135 0 (f id) + m.1 136 0 (f id) - 100 = 16 * m.1 135 0 (f id) + (m.1 136 0 (f id) - 100) by omega]
    exact this
theorem w_post2 (ty : Nat) (hty : ty = 2 ∨ ty = 3 ∨ ty = 5) (hB : B < 2000000000) {e k : Int} (he : e = 0 ∨ e = 1) (hk : 0 ≤ k ∧ k < 16) (hm : ∀ e, e = 0 ∨ e = 1 → r_m B c m e) :
    ∃ x c' m' mb, F9_pack ty k 0 c = some (x, c) ∧ F5_post e x c = some c' ∧ F12_begins k ty m = some mb ∧ mb.1 135 = m.1 135 ∧ F12_goes e mb = some m' ∧ (∀ e, e = 0 ∨ e = 1 → r_m (B + 1) c' m' e) ∧ so w_post c c' ∧ so w_msg m m' := by
  obtain ⟨x, x1, x2⟩ := p_pk2 ty hty hk c
  have hs : so w_msg m (m_beg m k ty) := so_I (so_I (so_I (so_rfl m) rfl _ _) rfl _ _) rfl _ _
  obtain ⟨c', m', p1, p2, p3, p4, p5, _⟩ := p_post (m := m_beg m k ty) hB he (fun e he => r_m_cg (fun _ _ _ _ => ⟨rfl, rfl⟩) (fun k' n j a b => by simp only [m_beg, rI_I]; rw [if_neg (by omega), if_neg (by omega), if_neg (by omega)]) (hm e he)) x2 (by
    refine ⟨by simp [m_beg, rI_I], fun j hj => ?_⟩
    have : j = 0 ∨ j = 1 := by simp at hj; omega
    rcases this with rfl | rfl
    · simp [m_beg, rI_I]; omega
    · simp [m_beg, rI_I])
  exact ⟨x, c', m', m_beg m k ty, x1, p1, f_begins m k ty, rfl, p2, p3, p4, so_tr hs (so_mono (fun k j q => by simp [w_msg] at q; simp [w_goes]; omega) p5)⟩
/-- announcing, by the reference's slot s -/
theorem w_ann (hB : B < 2000000000) {id s : Int} (hA : s_A N id s c m) (han : m.1 148 0 s = c.1 0 id 15) (han2 : c.1 0 id 15 = 0 ∨ c.1 0 id 15 = 1) (hm : ∀ e, e = 0 ∨ e = 1 → r_m B c m e) :
    ∃ a c' m', F11_announce (some id) c = some c' ∧ F12_acm s m = some m' ∧ (∀ e, e = 0 ∨ e = 1 → r_m (B + 1) c' m' e) ∧ (a = 0 ∨ a = 1) ∧ (c.2.2 0 id 2 ≠ none → a = 1) ∧ so w_post (sI c 0 id 15 a) c' ∧ so w_msg (sI m 148 0 s a) m' := by
  obtain ⟨s0, s1, e01, hh, hs⟩ := hA
  have idem : ∀ (m : JM) (k : Nat) (n j : Int), sI m k n j (m.1 k n j) = m := fun m k n j => by
    unfold sI
    refine Prod.ext ?_ rfl
    funext k' n' j'
    simp only
    split
    · rename_i q; obtain ⟨rfl, rfl, rfl⟩ := q; rfl
    · rfl
  unfold F11_announce F12_acm
  rw [g_t ⟨s0, s1⟩, Option.bind_some]
  rcases hs with ⟨a1, a2, a3⟩ | ⟨a1, a2, a3, a4, a5⟩
  · have e1 : F12_isCircuit (m.1 136 0 s) m = some (0, m) := by
      unfold F12_isCircuit F12_isCircuit_17
      rw [if_pos (by omega)]
    rw [if_pos a1, e1, Option.bind_some, if_pos rfl]
    refine ⟨c.1 0 id 15, c, m, rfl, rfl, r_m_mono (by omega) hm, han2, fun z => absurd a1 z, ?_, ?_⟩
    · rw [idem]; exact so_rfl c
    · rw [← han, idem]; exact so_rfl m
  · have e1 : F12_isCircuit (m.1 136 0 s) m = some (1, m) := by
      unfold F12_isCircuit
      rw [if_neg (by omega), if_neg (by omega)]
    rw [if_neg (by rw [a1]; simp), e1, Option.bind_some, if_neg (show ¬ ((1 : Int) = 0) by decide), g_t ⟨s0, s1⟩]
    dsimp only
    by_cases an : c.1 0 id 15 = 0
    · rw [if_pos an, if_pos (by rw [han, an]), lt_d, rI_R, hh, Option.bind_some, a1, Option.bind_some, g_t ⟨s0, s1⟩, lt_d, g_t ⟨s0, s1⟩]
      obtain ⟨x, c', m', mb, p1, p2, p3, p4, p5, p6, p7, p8⟩ := w_post2 (c := sI c 0 id 15 1) (m := sI m 148 0 s 1) 2 (Or.inl rfl) hB e01 (k := m.1 136 0 s - 100) (by omega) (fun e he => r_m_cg (fun k n j q => by rcases q with rfl | rfl <;> exact ⟨rfl, rfl⟩) (fun k n j a b => by rw [rI_I, if_neg (by omega)]) (hm e he))
      have r1 : (sI c 0 id 15 1).1 8 (16 * m.1 135 0 s + m.1 136 0 s - 100) 0 = m.1 136 0 s - 100 := by rw [rI_I, if_neg (by omega), a5]
      have r2 : (sI m 148 0 s 1).1 136 0 s = m.1 136 0 s := by rw [rI_I, if_neg (by omega)]
      have r3 : (sI m 148 0 s 1).1 135 0 s = m.1 135 0 s := by rw [rI_I, if_neg (by omega)]
      have r4 : mb.1 135 0 s = m.1 135 0 s := by rw [p4, r3]
      rw [r1]
      rw [show ((2 : Nat) : Int) = 2 from rfl] at p1 p3
      refine ⟨1, c', m', ?_, ?_, p6, Or.inr rfl, fun _ => rfl, p7, p8⟩
      · rw [p1, Option.bind_some, p2, Option.bind_some]
      · rw [r2, w32_of (by omega) (by omega), p3, Option.bind_some, g_t ⟨s0, s1⟩, r4, p5, Option.bind_some]
    · rw [if_neg an, if_neg (by rw [han]; exact an)]
      refine ⟨c.1 0 id 15, c, m, rfl, rfl, r_m_mono (by omega) hm, han2, fun _ => by omega, ?_, ?_⟩
      · rw [idem]; exact so_rfl c
      · rw [← han, idem]; exact so_rfl m
theorem rw_C (h : so w_h c c') : so w_C c c' := so_mono w_b1 h
theorem rw_M (h : so w_hm m m') : so w_M m m' := so_mono w_b2 h
/-- announcing -/
theorem p_ann (hf : f_ok f) (hB : B < 2000000000) {id : Int} (hv : lv c id) (R : rel f N z1 z2 X sec Y zd B H c m) :
    ∃ c' m', F11_announce (some id) c = some c' ∧ F12_acm (f id) m = some m' ∧ rel f N z1 z2 X sec Y zd (B + 1) H c' m' ∧ so w_C c c' ∧ so w_M m m' ∧ (∀ k n j, k ≠ 5 → k ≠ 31 → (k ≠ 0 ∨ n ≠ id ∨ j ≠ 15) → c'.1 k n j = c.1 k n j ∧ c'.2.1 k n j = c.2.1 k n j ∧ c'.2.2 k n j = c.2.2 k n j) ∧ (c.2.2 0 id 2 ≠ none → c'.1 0 id 15 = 1) ∧ (∀ k n j, w_msg k j = false → k ≠ 148 → m'.1 k n j = m.1 k n j) := by
  have han := R.2.2.1.2.2.2.2.2.2.2.2.2.2.2.1 id hv
  obtain ⟨a, c', m', p1, p2, p3, p4, p4b, p5, p6⟩ := w_ann hB (s_A_of hf hv R.1 R.2.2.1) han.1 han.2.1 R.2.2.2.1
  refine ⟨c', m', p1, p2, rel_post hf (rel_ann hf hv R a p4 p4b) p5 p6 (by omega) p3, ?_, ?_, fun k n j a b d => ?_, fun z => ?_, fun k n j a b => ?_⟩
  · exact so_tr (so_I (so_rfl c) rfl _ _) (so_mono w_b3 p5)
  · exact so_tr (so_I (so_rfl m) rfl _ _) (so_mono w_b4 p6)
  · have := p5 k n j (by simp [w_post]; omega)
    rw [rI_I, rI_L, rI_R, if_neg (by omega)] at this
    exact this
  · rw [(p5 0 id 15 rfl).1, rI_I, if_pos ⟨rfl, rfl, rfl⟩, p4b z]
  · rw [(p6 k n j a).1, rI_I, if_neg (by omega)]
end RZ
