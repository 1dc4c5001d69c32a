/-! ===== the whole relation, and what keeps it ===== -/
def r_z (c : JM) : Prop := ∀ e r, e = 0 ∨ e = 1 → c.1 1 e 4 ≤ r → r < 24 → c.1 1006 (24 * e + r) 0 ≠ 1
def r_x (f : Int → Int) (N B : Int) (c m : JM) : Prop := r_all f N B c m ∧ k_R (c.2.1 11 0 9) (m.1 12 0 4) (fun j => m.1 103 0 j) ∧ r_z c
/-- kinds of the class's own; the reference's own -/
def wC (k : Nat) (_ : Int) : Bool := (decide (k < 99) && k != 12) || k == 1006
def wR (k : Nat) (_ : Int) : Bool := k == 12 || (decide (100 ≤ k) && decide (k < 1000))
def r_y (f : Int → Int) (N B : Int) (c m c' m' : JM) : Prop := r_x f N B c' m' ∧ so wC c c' ∧ so wR m m'
theorem r_y0 {f : Int → Int} {N B : Int} {c m : JM} (R : r_x f N B c m) : r_y f N B c m c m := ⟨R, so_rfl c, so_rfl m⟩
def rqC (k : Nat) (j : Int) : Bool := (k == 1 && j == 4) || k == 22 || k == 6
def rqM (k : Nat) : Bool := decide (105 ≤ k) && decide (k ≤ 111)
def rfC (k : Nat) (_ : Int) : Bool := k == 28 || k == 29
def rfM (k : Nat) : Bool := k == 127 || k == 128 || k == 129
theorem k_R_cg {x n : Int} {g g' : Int → Int} (h : ∀ j, g' j = g j) (K : k_R x n g) : k_R x n g' := by
  obtain ⟨K, a, b, d, e⟩ := K
  exact ⟨K, a, b, d, fun j hj => by rw [h]; exact e j hj⟩
section RK
variable {f : Int → Int} {N : Int} {c m c' m' : JM} {B : Int}
theorem r_p_cg2 (hc : ∀ k n j, rqC k j = true → c'.1 k n j = c.1 k n j ∧ c'.2.1 k n j = c.2.1 k n j ∧ c'.2.2 k n j = c.2.2 k n j) (hm : ∀ k n j, rqM k = true → m'.1 k n j = m.1 k n j) (H : r_p c m) : r_p c' m' := by
  have a0 : ∀ n, c'.1 1 n 4 = c.1 1 n 4 := fun n => (hc 1 n 4 rfl).1
  have a1 : ∀ n j, c'.2.2 22 n j = c.2.2 22 n j := fun n j => (hc 22 n j rfl).2.2
  have a2 : ∀ n j, c'.1 6 n j = c.1 6 n j := fun n j => (hc 6 n j rfl).1
  have a3 : ∀ n j, c'.2.1 6 n j = c.2.1 6 n j := fun n j => (hc 6 n j rfl).2.1
  have b5 : ∀ j, m'.1 105 0 j = m.1 105 0 j := fun j => hm 105 0 j rfl
  have b6 : ∀ j, m'.1 106 0 j = m.1 106 0 j := fun j => hm 106 0 j rfl
  have b7 : ∀ j, m'.1 107 0 j = m.1 107 0 j := fun j => hm 107 0 j rfl
  have b8 : ∀ j, m'.1 108 0 j = m.1 108 0 j := fun j => hm 108 0 j rfl
  have b9 : ∀ j, m'.1 109 0 j = m.1 109 0 j := fun j => hm 109 0 j rfl
  have b10 : ∀ j, m'.1 110 0 j = m.1 110 0 j := fun j => hm 110 0 j rfl
  have b11 : ∀ j, m'.1 111 0 j = m.1 111 0 j := fun j => hm 111 0 j rfl
  unfold r_p at H ⊢
  simp only [a0, a1, a2, a3, b5, b6, b7, b8, b9, b10, b11]
  exact H
theorem r_f_cg2 (hc : ∀ k n j, rfC k j = true → c'.1 k n j = c.1 k n j ∧ c'.2.1 k n j = c.2.1 k n j ∧ c'.2.2 k n j = c.2.2 k n j) (hm : ∀ k n j, rfM k = true → m'.1 k n j = m.1 k n j) (H : r_f c m) : r_f c' m' := by
  have a2 : ∀ n j, c'.1 28 n j = c.1 28 n j := fun n j => (hc 28 n j rfl).1
  have a3 : ∀ n j, c'.2.1 29 n j = c.2.1 29 n j := fun n j => (hc 29 n j rfl).2.1
  have b7 : ∀ j, m'.1 127 0 j = m.1 127 0 j := fun j => hm 127 0 j rfl
  have b8 : ∀ j, m'.1 128 0 j = m.1 128 0 j := fun j => hm 128 0 j rfl
  have b9 : ∀ j, m'.1 129 0 j = m.1 129 0 j := fun j => hm 129 0 j rfl
  unfold r_f at H ⊢
  simp only [a2, a3, b7, b8, b9]
  exact H
def w_wt (k : Nat) (j : Int) : Bool := k == 2 && j == 2
def w_wtm (k : Nat) (j : Int) : Bool := k == 151 && j == j
theorem x_wt (hf : f_ok f) (R : r_x f N B c m) (sc : so w_wt c c') (sm : so w_wtm m m') (hQ : r_q f B c' m') : r_y f N B c m c' m' := by
  obtain ⟨⟨⟨R1, R2, R3, R4, R5, R6, R7, R8, R9, R10⟩, RD, RS, RU⟩, RX, RZ⟩ := R
  refine ⟨⟨⟨⟨?_, ?_, ?_, ?_, ?_, ?_, ?_, ?_, ?_, ?_⟩, ?_, ?_, ?_⟩, ?_, ?_⟩, so_mono (fun k j h => by simp [wC] at h; simp [w_wt]; omega) sc, so_mono (fun k j h => by simp [wR] at h; simp [w_wtm]; omega) sm⟩
  · exact r_k_cg (fun k n j q => by have := sc k n j (by simp [rkC] at q; simp [w_wt]; omega); exact ⟨this.1, this.2.2⟩) (fun k n j q => (sm k n j (by simp [rkM] at q; simp [w_wtm]; omega)).1) R1
  · exact r_l_cg (fun k n j q => (sc k n j (by simp [rlC] at q; simp [w_wt]; omega)).1) (fun k n j q => (sm k n j (by simp [rlM] at q; simp [w_wtm]; omega)).1) R2
  · exact r_h_cg (fun k n j q => sc k n j (by simp [rdC] at q; simp [w_wt]; omega)) (fun k n j q => (sm k n j (by simp [rdM] at q; simp [w_wtm]; omega)).1) R3
  · exact fun e he => r_m_cg (fun k n j q => by have := sc k n j (by simp [w_wt]; omega); exact ⟨this.1, this.2.1⟩) (fun k n j a b => (sm k n j (by simp [w_wtm]; omega)).1) (R4 e he)
  · exact hQ
  · exact rr_cg R6 (fun s _ _ => by rw [(sm 133 0 s (by simp [w_wtm])).1, (sm 135 0 s (by simp [w_wtm])).1, (sm 137 0 s (by simp [w_wtm])).1]; exact ⟨Iff.rfl, fun _ _ _ _ => Iff.rfl⟩) (fun e r => (sc 23 e r (by simp [w_wt])).1) (sc 11 0 13 (by simp [w_wt])).1
  · exact a_cg R7 (fun n => by rw [(sc 0 n 9 (by simp [w_wt])).1]) (fun j => (sc 40 0 j (by simp [w_wt])).2.2) (sc 11 0 11 (by simp [w_wt])).1 (sc 11 0 12 (by simp [w_wt])).1 (fun j => (sm 134 0 j (by simp [w_wtm])).1) (sm 12 0 32 (by simp [w_wtm])).1
  · exact g_cg R8 (fun j => (sc 26 0 j (by simp [w_wt])).1) (fun j => (sc 27 0 j (by simp [w_wt])).1) (sc 3 0 2 (by simp [w_wt])).1 (fun k j a b => (sm k 0 j (by simp [w_wtm]; omega)).1) (sm 12 0 90 (by simp [w_wtm])).1
  · exact r_p_cg2 (fun k n j q => sc k n j (by simp [rqC] at q; simp [w_wt]; omega)) (fun k n j q => (sm k n j (by simp [rqM] at q; simp [w_wtm]; omega)).1) R9
  · exact r_f_cg2 (fun k n j q => sc k n j (by simp [rfC] at q; simp [w_wt]; omega)) (fun k n j q => (sm k n j (by simp [rfM] at q; simp [w_wtm]; omega)).1) R10
  · exact r_d_cg2 (fun l' j q => (sc 4 l' j (by rcases q with rfl | rfl | rfl | rfl <;> simp [w_wt])).1) (fun l' j => (sc 30 l' j (by simp [w_wt])).1) (fun j => (sm 117 0 j (by simp [w_wtm])).1) RD
  · exact r_s_cg (fun l' => (sc 4 l' 18 (by simp [w_wt])).1) (fun t => (sc 8 t 4 (by simp [w_wt])).1) (fun j => (sm 184 0 j (by simp [w_wtm])).1) RS
  · rw [(sc 11 0 10 (by simp [w_wt])).1]; exact r_u_cg (so_mono (fun k j h => by simp [wB] at h; simp [w_wt]; omega) sc) (so_mono (fun k j h => by simp [wBm] at h; simp [w_wtm]; omega) sm) RU
  · exact by rw [(sc 11 0 9 (by simp [w_wt])).2.1, (sm 12 0 4 (by simp [w_wtm])).1]; exact k_R_cg (fun j => (sm 103 0 j (by simp [w_wtm])).1) RX
  · exact fun e r he a b => by rw [(sc 1006 _ 0 (by simp [w_wt])).1]; rw [(sc 1 e 4 (by simp [w_wt])).1] at a; exact RZ e r he a b
def w_ft (k : Nat) (j : Int) : Bool := k == 28 && j == j
def w_ftm (k : Nat) (j : Int) : Bool := k == 127 && j == j
theorem x_ft (hf : f_ok f) (R : r_x f N B c m) (sc : so w_ft c c') (sm : so w_ftm m m') (hF : r_f c' m') : r_y f N B c m c' m' := by
  obtain ⟨⟨⟨R1, R2, R3, R4, R5, R6, R7, R8, R9, R10⟩, RD, RS, RU⟩, RX, RZ⟩ := R
  refine ⟨⟨⟨⟨?_, ?_, ?_, ?_, ?_, ?_, ?_, ?_, ?_, ?_⟩, ?_, ?_, ?_⟩, ?_, ?_⟩, so_mono (fun k j h => by simp [wC] at h; simp [w_ft]; omega) sc, so_mono (fun k j h => by simp [wR] at h; simp [w_ftm]; omega) sm⟩
  · exact r_k_cg (fun k n j q => by have := sc k n j (by simp [rkC] at q; simp [w_ft]; omega); exact ⟨this.1, this.2.2⟩) (fun k n j q => (sm k n j (by simp [rkM] at q; simp [w_ftm]; omega)).1) R1
  · exact r_l_cg (fun k n j q => (sc k n j (by simp [rlC] at q; simp [w_ft]; omega)).1) (fun k n j q => (sm k n j (by simp [rlM] at q; simp [w_ftm]; omega)).1) R2
  · exact r_h_cg (fun k n j q => sc k n j (by simp [rdC] at q; simp [w_ft]; omega)) (fun k n j q => (sm k n j (by simp [rdM] at q; simp [w_ftm]; omega)).1) R3
  · exact fun e he => r_m_cg (fun k n j q => by have := sc k n j (by simp [w_ft]; omega); exact ⟨this.1, this.2.1⟩) (fun k n j a b => (sm k n j (by simp [w_ftm]; omega)).1) (R4 e he)
  · exact q_cg R5 (fun n => by rw [(sc 0 n 9 (by simp [w_ft])).1, (sc 0 n 5 (by simp [w_ft])).2.2, (sc 0 n 14 (by simp [w_ft])).1]; exact ⟨Iff.rfl, fun _ => ⟨rfl, rfl⟩⟩) hf (fun n j => (sc 2 n j (by simp [w_ft])).1) (fun n j => (sc 25 n j (by simp [w_ft])).2.2) (fun k j a b => (sm k 0 j (by simp [w_ftm]; omega)).1)
  · exact rr_cg R6 (fun s _ _ => by rw [(sm 133 0 s (by simp [w_ftm])).1, (sm 135 0 s (by simp [w_ftm])).1, (sm 137 0 s (by simp [w_ftm])).1]; exact ⟨Iff.rfl, fun _ _ _ _ => Iff.rfl⟩) (fun e r => (sc 23 e r (by simp [w_ft])).1) (sc 11 0 13 (by simp [w_ft])).1
  · exact a_cg R7 (fun n => by rw [(sc 0 n 9 (by simp [w_ft])).1]) (fun j => (sc 40 0 j (by simp [w_ft])).2.2) (sc 11 0 11 (by simp [w_ft])).1 (sc 11 0 12 (by simp [w_ft])).1 (fun j => (sm 134 0 j (by simp [w_ftm])).1) (sm 12 0 32 (by simp [w_ftm])).1
  · exact g_cg R8 (fun j => (sc 26 0 j (by simp [w_ft])).1) (fun j => (sc 27 0 j (by simp [w_ft])).1) (sc 3 0 2 (by simp [w_ft])).1 (fun k j a b => (sm k 0 j (by simp [w_ftm]; omega)).1) (sm 12 0 90 (by simp [w_ftm])).1
  · exact r_p_cg2 (fun k n j q => sc k n j (by simp [rqC] at q; simp [w_ft]; omega)) (fun k n j q => (sm k n j (by simp [rqM] at q; simp [w_ftm]; omega)).1) R9
  · exact hF
  · exact r_d_cg2 (fun l' j q => (sc 4 l' j (by rcases q with rfl | rfl | rfl | rfl <;> simp [w_ft])).1) (fun l' j => (sc 30 l' j (by simp [w_ft])).1) (fun j => (sm 117 0 j (by simp [w_ftm])).1) RD
  · exact r_s_cg (fun l' => (sc 4 l' 18 (by simp [w_ft])).1) (fun t => (sc 8 t 4 (by simp [w_ft])).1) (fun j => (sm 184 0 j (by simp [w_ftm])).1) RS
  · rw [(sc 11 0 10 (by simp [w_ft])).1]; exact r_u_cg (so_mono (fun k j h => by simp [wB] at h; simp [w_ft]; omega) sc) (so_mono (fun k j h => by simp [wBm] at h; simp [w_ftm]; omega) sm) RU
  · exact by rw [(sc 11 0 9 (by simp [w_ft])).2.1, (sm 12 0 4 (by simp [w_ftm])).1]; exact k_R_cg (fun j => (sm 103 0 j (by simp [w_ftm])).1) RX
  · exact fun e r he a b => by rw [(sc 1006 _ 0 (by simp [w_ft])).1]; rw [(sc 1 e 4 (by simp [w_ft])).1] at a; exact RZ e r he a b
def w_cr (k : Nat) (j : Int) : Bool := k == 4 && j == 17
def w_crm (k : Nat) (j : Int) : Bool := k == 126 && j == j
theorem x_cr (hf : f_ok f) (R : r_x f N B c m) (sc : so w_cr c c') (sm : so w_crm m m') (hL : r_l (-1) c' m') : r_y f N B c m c' m' := by
  obtain ⟨⟨⟨R1, R2, R3, R4, R5, R6, R7, R8, R9, R10⟩, RD, RS, RU⟩, RX, RZ⟩ := R
  refine ⟨⟨⟨⟨?_, ?_, ?_, ?_, ?_, ?_, ?_, ?_, ?_, ?_⟩, ?_, ?_, ?_⟩, ?_, ?_⟩, so_mono (fun k j h => by simp [wC] at h; simp [w_cr]; omega) sc, so_mono (fun k j h => by simp [wR] at h; simp [w_crm]; omega) sm⟩
  · exact r_k_cg (fun k n j q => by have := sc k n j (by simp [rkC] at q; simp [w_cr]; omega); exact ⟨this.1, this.2.2⟩) (fun k n j q => (sm k n j (by simp [rkM] at q; simp [w_crm]; omega)).1) R1
  · exact hL
  · exact r_h_cg (fun k n j q => sc k n j (by simp [rdC] at q; simp [w_cr]; omega)) (fun k n j q => (sm k n j (by simp [rdM] at q; simp [w_crm]; omega)).1) R3
  · exact fun e he => r_m_cg (fun k n j q => by have := sc k n j (by simp [w_cr]; omega); exact ⟨this.1, this.2.1⟩) (fun k n j a b => (sm k n j (by simp [w_crm]; omega)).1) (R4 e he)
  · exact q_cg R5 (fun n => by rw [(sc 0 n 9 (by simp [w_cr])).1, (sc 0 n 5 (by simp [w_cr])).2.2, (sc 0 n 14 (by simp [w_cr])).1]; exact ⟨Iff.rfl, fun _ => ⟨rfl, rfl⟩⟩) hf (fun n j => (sc 2 n j (by simp [w_cr])).1) (fun n j => (sc 25 n j (by simp [w_cr])).2.2) (fun k j a b => (sm k 0 j (by simp [w_crm]; omega)).1)
  · exact rr_cg R6 (fun s _ _ => by rw [(sm 133 0 s (by simp [w_crm])).1, (sm 135 0 s (by simp [w_crm])).1, (sm 137 0 s (by simp [w_crm])).1]; exact ⟨Iff.rfl, fun _ _ _ _ => Iff.rfl⟩) (fun e r => (sc 23 e r (by simp [w_cr])).1) (sc 11 0 13 (by simp [w_cr])).1
  · exact a_cg R7 (fun n => by rw [(sc 0 n 9 (by simp [w_cr])).1]) (fun j => (sc 40 0 j (by simp [w_cr])).2.2) (sc 11 0 11 (by simp [w_cr])).1 (sc 11 0 12 (by simp [w_cr])).1 (fun j => (sm 134 0 j (by simp [w_crm])).1) (sm 12 0 32 (by simp [w_crm])).1
  · exact g_cg R8 (fun j => (sc 26 0 j (by simp [w_cr])).1) (fun j => (sc 27 0 j (by simp [w_cr])).1) (sc 3 0 2 (by simp [w_cr])).1 (fun k j a b => (sm k 0 j (by simp [w_crm]; omega)).1) (sm 12 0 90 (by simp [w_crm])).1
  · exact r_p_cg2 (fun k n j q => sc k n j (by simp [rqC] at q; simp [w_cr]; omega)) (fun k n j q => (sm k n j (by simp [rqM] at q; simp [w_crm]; omega)).1) R9
  · exact r_f_cg2 (fun k n j q => sc k n j (by simp [rfC] at q; simp [w_cr]; omega)) (fun k n j q => (sm k n j (by simp [rfM] at q; simp [w_crm]; omega)).1) R10
  · exact r_d_cg2 (fun l' j q => (sc 4 l' j (by rcases q with rfl | rfl | rfl | rfl <;> simp [w_cr])).1) (fun l' j => (sc 30 l' j (by simp [w_cr])).1) (fun j => (sm 117 0 j (by simp [w_crm])).1) RD
  · exact r_s_cg (fun l' => (sc 4 l' 18 (by simp [w_cr])).1) (fun t => (sc 8 t 4 (by simp [w_cr])).1) (fun j => (sm 184 0 j (by simp [w_crm])).1) RS
  · rw [(sc 11 0 10 (by simp [w_cr])).1]; exact r_u_cg (so_mono (fun k j h => by simp [wB] at h; simp [w_cr]; omega) sc) (so_mono (fun k j h => by simp [wBm] at h; simp [w_crm]; omega) sm) RU
  · exact by rw [(sc 11 0 9 (by simp [w_cr])).2.1, (sm 12 0 4 (by simp [w_crm])).1]; exact k_R_cg (fun j => (sm 103 0 j (by simp [w_crm])).1) RX
  · exact fun e r he a b => by rw [(sc 1006 _ 0 (by simp [w_cr])).1]; rw [(sc 1 e 4 (by simp [w_cr])).1] at a; exact RZ e r he a b
def w_tf (k : Nat) (j : Int) : Bool := k == 26 && j == j
def w_tfm (k : Nat) (j : Int) : Bool := decide (186 ≤ k) && decide (k ≤ 189) && j == j
theorem x_tf (hf : f_ok f) (R : r_x f N B c m) (sc : so w_tf c c') (sm : so w_tfm m m') (hG : r_g B c' m') : r_y f N B c m c' m' := by
  obtain ⟨⟨⟨R1, R2, R3, R4, R5, R6, R7, R8, R9, R10⟩, RD, RS, RU⟩, RX, RZ⟩ := R
  refine ⟨⟨⟨⟨?_, ?_, ?_, ?_, ?_, ?_, ?_, ?_, ?_, ?_⟩, ?_, ?_, ?_⟩, ?_, ?_⟩, so_mono (fun k j h => by simp [wC] at h; simp [w_tf]; omega) sc, so_mono (fun k j h => by simp [wR] at h; simp [w_tfm]; omega) sm⟩
  · exact r_k_cg (fun k n j q => by have := sc k n j (by simp [rkC] at q; simp [w_tf]; omega); exact ⟨this.1, this.2.2⟩) (fun k n j q => (sm k n j (by simp [rkM] at q; simp [w_tfm]; omega)).1) R1
  · exact r_l_cg (fun k n j q => (sc k n j (by simp [rlC] at q; simp [w_tf]; omega)).1) (fun k n j q => (sm k n j (by simp [rlM] at q; simp [w_tfm]; omega)).1) R2
  · exact r_h_cg (fun k n j q => sc k n j (by simp [rdC] at q; simp [w_tf]; omega)) (fun k n j q => (sm k n j (by simp [rdM] at q; simp [w_tfm]; omega)).1) R3
  · exact fun e he => r_m_cg (fun k n j q => by have := sc k n j (by simp [w_tf]; omega); exact ⟨this.1, this.2.1⟩) (fun k n j a b => (sm k n j (by simp [w_tfm]; omega)).1) (R4 e he)
  · exact q_cg R5 (fun n => by rw [(sc 0 n 9 (by simp [w_tf])).1, (sc 0 n 5 (by simp [w_tf])).2.2, (sc 0 n 14 (by simp [w_tf])).1]; exact ⟨Iff.rfl, fun _ => ⟨rfl, rfl⟩⟩) hf (fun n j => (sc 2 n j (by simp [w_tf])).1) (fun n j => (sc 25 n j (by simp [w_tf])).2.2) (fun k j a b => (sm k 0 j (by simp [w_tfm]; omega)).1)
  · exact rr_cg R6 (fun s _ _ => by rw [(sm 133 0 s (by simp [w_tfm])).1, (sm 135 0 s (by simp [w_tfm])).1, (sm 137 0 s (by simp [w_tfm])).1]; exact ⟨Iff.rfl, fun _ _ _ _ => Iff.rfl⟩) (fun e r => (sc 23 e r (by simp [w_tf])).1) (sc 11 0 13 (by simp [w_tf])).1
  · exact a_cg R7 (fun n => by rw [(sc 0 n 9 (by simp [w_tf])).1]) (fun j => (sc 40 0 j (by simp [w_tf])).2.2) (sc 11 0 11 (by simp [w_tf])).1 (sc 11 0 12 (by simp [w_tf])).1 (fun j => (sm 134 0 j (by simp [w_tfm])).1) (sm 12 0 32 (by simp [w_tfm])).1
  · exact hG
  · exact r_p_cg2 (fun k n j q => sc k n j (by simp [rqC] at q; simp [w_tf]; omega)) (fun k n j q => (sm k n j (by simp [rqM] at q; simp [w_tfm]; omega)).1) R9
  · exact r_f_cg2 (fun k n j q => sc k n j (by simp [rfC] at q; simp [w_tf]; omega)) (fun k n j q => (sm k n j (by simp [rfM] at q; simp [w_tfm]; omega)).1) R10
  · exact r_d_cg2 (fun l' j q => (sc 4 l' j (by rcases q with rfl | rfl | rfl | rfl <;> simp [w_tf])).1) (fun l' j => (sc 30 l' j (by simp [w_tf])).1) (fun j => (sm 117 0 j (by simp [w_tfm])).1) RD
  · exact r_s_cg (fun l' => (sc 4 l' 18 (by simp [w_tf])).1) (fun t => (sc 8 t 4 (by simp [w_tf])).1) (fun j => (sm 184 0 j (by simp [w_tfm])).1) RS
  · rw [(sc 11 0 10 (by simp [w_tf])).1]; exact r_u_cg (so_mono (fun k j h => by simp [wB] at h; simp [w_tf]; omega) sc) (so_mono (fun k j h => by simp [wBm] at h; simp [w_tfm]; omega) sm) RU
  · exact by rw [(sc 11 0 9 (by simp [w_tf])).2.1, (sm 12 0 4 (by simp [w_tfm])).1]; exact k_R_cg (fun j => (sm 103 0 j (by simp [w_tfm])).1) RX
  · exact fun e r he a b => by rw [(sc 1006 _ 0 (by simp [w_tf])).1]; rw [(sc 1 e 4 (by simp [w_tf])).1] at a; exact RZ e r he a b
def w_mb (k : Nat) (j : Int) : Bool := k == 25 || (k == 2 && j == 1)
def w_mbm (k : Nat) (j : Int) : Bool := (k == 149 || k == 150) && j == j
theorem x_mb (hf : f_ok f) (R : r_x f N B c m) (sc : so w_mb c c') (sm : so w_mbm m m') (hQ : r_q f B c' m') : r_y f N B c m c' m' := by
  obtain ⟨⟨⟨R1, R2, R3, R4, R5, R6, R7, R8, R9, R10⟩, RD, RS, RU⟩, RX, RZ⟩ := R
  refine ⟨⟨⟨⟨?_, ?_, ?_, ?_, ?_, ?_, ?_, ?_, ?_, ?_⟩, ?_, ?_, ?_⟩, ?_, ?_⟩, so_mono (fun k j h => by simp [wC] at h; simp [w_mb]; omega) sc, so_mono (fun k j h => by simp [wR] at h; simp [w_mbm]; omega) sm⟩
  · exact r_k_cg (fun k n j q => by have := sc k n j (by simp [rkC] at q; simp [w_mb]; omega); exact ⟨this.1, this.2.2⟩) (fun k n j q => (sm k n j (by simp [rkM] at q; simp [w_mbm]; omega)).1) R1
  · exact r_l_cg (fun k n j q => (sc k n j (by simp [rlC] at q; simp [w_mb]; omega)).1) (fun k n j q => (sm k n j (by simp [rlM] at q; simp [w_mbm]; omega)).1) R2
  · exact r_h_cg (fun k n j q => sc k n j (by simp [rdC] at q; simp [w_mb]; omega)) (fun k n j q => (sm k n j (by simp [rdM] at q; simp [w_mbm]; omega)).1) R3
  · exact fun e he => r_m_cg (fun k n j q => by have := sc k n j (by simp [w_mb]; omega); exact ⟨this.1, this.2.1⟩) (fun k n j a b => (sm k n j (by simp [w_mbm]; omega)).1) (R4 e he)
  · exact hQ
  · exact rr_cg R6 (fun s _ _ => by rw [(sm 133 0 s (by simp [w_mbm])).1, (sm 135 0 s (by simp [w_mbm])).1, (sm 137 0 s (by simp [w_mbm])).1]; exact ⟨Iff.rfl, fun _ _ _ _ => Iff.rfl⟩) (fun e r => (sc 23 e r (by simp [w_mb])).1) (sc 11 0 13 (by simp [w_mb])).1
  · exact a_cg R7 (fun n => by rw [(sc 0 n 9 (by simp [w_mb])).1]) (fun j => (sc 40 0 j (by simp [w_mb])).2.2) (sc 11 0 11 (by simp [w_mb])).1 (sc 11 0 12 (by simp [w_mb])).1 (fun j => (sm 134 0 j (by simp [w_mbm])).1) (sm 12 0 32 (by simp [w_mbm])).1
  · exact g_cg R8 (fun j => (sc 26 0 j (by simp [w_mb])).1) (fun j => (sc 27 0 j (by simp [w_mb])).1) (sc 3 0 2 (by simp [w_mb])).1 (fun k j a b => (sm k 0 j (by simp [w_mbm]; omega)).1) (sm 12 0 90 (by simp [w_mbm])).1
  · exact r_p_cg2 (fun k n j q => sc k n j (by simp [rqC] at q; simp [w_mb]; omega)) (fun k n j q => (sm k n j (by simp [rqM] at q; simp [w_mbm]; omega)).1) R9
  · exact r_f_cg2 (fun k n j q => sc k n j (by simp [rfC] at q; simp [w_mb]; omega)) (fun k n j q => (sm k n j (by simp [rfM] at q; simp [w_mbm]; omega)).1) R10
  · exact r_d_cg2 (fun l' j q => (sc 4 l' j (by rcases q with rfl | rfl | rfl | rfl <;> simp [w_mb])).1) (fun l' j => (sc 30 l' j (by simp [w_mb])).1) (fun j => (sm 117 0 j (by simp [w_mbm])).1) RD
  · exact r_s_cg (fun l' => (sc 4 l' 18 (by simp [w_mb])).1) (fun t => (sc 8 t 4 (by simp [w_mb])).1) (fun j => (sm 184 0 j (by simp [w_mbm])).1) RS
  · rw [(sc 11 0 10 (by simp [w_mb])).1]; exact r_u_cg (so_mono (fun k j h => by simp [wB] at h; simp [w_mb]; omega) sc) (so_mono (fun k j h => by simp [wBm] at h; simp [w_mbm]; omega) sm) RU
  · exact by rw [(sc 11 0 9 (by simp [w_mb])).2.1, (sm 12 0 4 (by simp [w_mbm])).1]; exact k_R_cg (fun j => (sm 103 0 j (by simp [w_mbm])).1) RX
  · exact fun e r he a b => by rw [(sc 1006 _ 0 (by simp [w_mb])).1]; rw [(sc 1 e 4 (by simp [w_mb])).1] at a; exact RZ e r he a b
def w_di (k : Nat) (j : Int) : Bool := k == 30 || (k == 4 && j == 4)
def w_dim (k : Nat) (j : Int) : Bool := (k == 117 || k == 118) && j == j
theorem x_di (hf : f_ok f) (R : r_x f N B c m) (sc : so w_di c c') (sm : so w_dim m m') (hL : r_l (-1) c' m') (hD : r_d c' m') : r_y f N B c m c' m' := by
  obtain ⟨⟨⟨R1, R2, R3, R4, R5, R6, R7, R8, R9, R10⟩, RD, RS, RU⟩, RX, RZ⟩ := R
  refine ⟨⟨⟨⟨?_, ?_, ?_, ?_, ?_, ?_, ?_, ?_, ?_, ?_⟩, ?_, ?_, ?_⟩, ?_, ?_⟩, so_mono (fun k j h => by simp [wC] at h; simp [w_di]; omega) sc, so_mono (fun k j h => by simp [wR] at h; simp [w_dim]; omega) sm⟩
  · exact r_k_cg (fun k n j q => by have := sc k n j (by simp [rkC] at q; simp [w_di]; omega); exact ⟨this.1, this.2.2⟩) (fun k n j q => (sm k n j (by simp [rkM] at q; simp [w_dim]; omega)).1) R1
  · exact hL
  · exact r_h_cg (fun k n j q => sc k n j (by simp [rdC] at q; simp [w_di]; omega)) (fun k n j q => (sm k n j (by simp [rdM] at q; simp [w_dim]; omega)).1) R3
  · exact fun e he => r_m_cg (fun k n j q => by have := sc k n j (by simp [w_di]; omega); exact ⟨this.1, this.2.1⟩) (fun k n j a b => (sm k n j (by simp [w_dim]; omega)).1) (R4 e he)
  · exact q_cg R5 (fun n => by rw [(sc 0 n 9 (by simp [w_di])).1, (sc 0 n 5 (by simp [w_di])).2.2, (sc 0 n 14 (by simp [w_di])).1]; exact ⟨Iff.rfl, fun _ => ⟨rfl, rfl⟩⟩) hf (fun n j => (sc 2 n j (by simp [w_di])).1) (fun n j => (sc 25 n j (by simp [w_di])).2.2) (fun k j a b => (sm k 0 j (by simp [w_dim]; omega)).1)
  · exact rr_cg R6 (fun s _ _ => by rw [(sm 133 0 s (by simp [w_dim])).1, (sm 135 0 s (by simp [w_dim])).1, (sm 137 0 s (by simp [w_dim])).1]; exact ⟨Iff.rfl, fun _ _ _ _ => Iff.rfl⟩) (fun e r => (sc 23 e r (by simp [w_di])).1) (sc 11 0 13 (by simp [w_di])).1
  · exact a_cg R7 (fun n => by rw [(sc 0 n 9 (by simp [w_di])).1]) (fun j => (sc 40 0 j (by simp [w_di])).2.2) (sc 11 0 11 (by simp [w_di])).1 (sc 11 0 12 (by simp [w_di])).1 (fun j => (sm 134 0 j (by simp [w_dim])).1) (sm 12 0 32 (by simp [w_dim])).1
  · exact g_cg R8 (fun j => (sc 26 0 j (by simp [w_di])).1) (fun j => (sc 27 0 j (by simp [w_di])).1) (sc 3 0 2 (by simp [w_di])).1 (fun k j a b => (sm k 0 j (by simp [w_dim]; omega)).1) (sm 12 0 90 (by simp [w_dim])).1
  · exact r_p_cg2 (fun k n j q => sc k n j (by simp [rqC] at q; simp [w_di]; omega)) (fun k n j q => (sm k n j (by simp [rqM] at q; simp [w_dim]; omega)).1) R9
  · exact r_f_cg2 (fun k n j q => sc k n j (by simp [rfC] at q; simp [w_di]; omega)) (fun k n j q => (sm k n j (by simp [rfM] at q; simp [w_dim]; omega)).1) R10
  · exact hD
  · exact r_s_cg (fun l' => (sc 4 l' 18 (by simp [w_di])).1) (fun t => (sc 8 t 4 (by simp [w_di])).1) (fun j => (sm 184 0 j (by simp [w_dim])).1) RS
  · rw [(sc 11 0 10 (by simp [w_di])).1]; exact r_u_cg (so_mono (fun k j h => by simp [wB] at h; simp [w_di]; omega) sc) (so_mono (fun k j h => by simp [wBm] at h; simp [w_dim]; omega) sm) RU
  · exact by rw [(sc 11 0 9 (by simp [w_di])).2.1, (sm 12 0 4 (by simp [w_dim])).1]; exact k_R_cg (fun j => (sm 103 0 j (by simp [w_dim])).1) RX
  · exact fun e r he a b => by rw [(sc 1006 _ 0 (by simp [w_di])).1]; rw [(sc 1 e 4 (by simp [w_di])).1] at a; exact RZ e r he a b
def w_fo (k : Nat) (j : Int) : Bool := k == 29 || (k == 11 && j == 9)
def w_fom (k : Nat) (j : Int) : Bool := k == 128 || k == 129 || (k == 12 && j == 4)
theorem x_fo (hf : f_ok f) (R : r_x f N B c m) (sc : so w_fo c c') (sm : so w_fom m m') (hF : r_f c' m') (hX : k_R (c'.2.1 11 0 9) (m'.1 12 0 4) (fun j => m'.1 103 0 j)) : r_y f N B c m c' m' := by
  obtain ⟨⟨⟨R1, R2, R3, R4, R5, R6, R7, R8, R9, R10⟩, RD, RS, RU⟩, RX, RZ⟩ := R
  refine ⟨⟨⟨⟨?_, ?_, ?_, ?_, ?_, ?_, ?_, ?_, ?_, ?_⟩, ?_, ?_, ?_⟩, ?_, ?_⟩, so_mono (fun k j h => by simp [wC] at h; simp [w_fo]; omega) sc, so_mono (fun k j h => by simp [wR] at h; simp [w_fom]; omega) sm⟩
  · exact r_k_cg (fun k n j q => by have := sc k n j (by simp [rkC] at q; simp [w_fo]; omega); exact ⟨this.1, this.2.2⟩) (fun k n j q => (sm k n j (by simp [rkM] at q; simp [w_fom]; omega)).1) R1
  · exact r_l_cg (fun k n j q => (sc k n j (by simp [rlC] at q; simp [w_fo]; omega)).1) (fun k n j q => (sm k n j (by simp [rlM] at q; simp [w_fom]; omega)).1) R2
  · exact r_h_cg (fun k n j q => sc k n j (by simp [rdC] at q; simp [w_fo]; omega)) (fun k n j q => (sm k n j (by simp [rdM] at q; simp [w_fom]; omega)).1) R3
  · exact fun e he => r_m_cg (fun k n j q => by have := sc k n j (by simp [w_fo]; omega); exact ⟨this.1, this.2.1⟩) (fun k n j a b => (sm k n j (by simp [w_fom]; omega)).1) (R4 e he)
  · exact q_cg R5 (fun n => by rw [(sc 0 n 9 (by simp [w_fo])).1, (sc 0 n 5 (by simp [w_fo])).2.2, (sc 0 n 14 (by simp [w_fo])).1]; exact ⟨Iff.rfl, fun _ => ⟨rfl, rfl⟩⟩) hf (fun n j => (sc 2 n j (by simp [w_fo])).1) (fun n j => (sc 25 n j (by simp [w_fo])).2.2) (fun k j a b => (sm k 0 j (by simp [w_fom]; omega)).1)
  · exact rr_cg R6 (fun s _ _ => by rw [(sm 133 0 s (by simp [w_fom])).1, (sm 135 0 s (by simp [w_fom])).1, (sm 137 0 s (by simp [w_fom])).1]; exact ⟨Iff.rfl, fun _ _ _ _ => Iff.rfl⟩) (fun e r => (sc 23 e r (by simp [w_fo])).1) (sc 11 0 13 (by simp [w_fo])).1
  · exact a_cg R7 (fun n => by rw [(sc 0 n 9 (by simp [w_fo])).1]) (fun j => (sc 40 0 j (by simp [w_fo])).2.2) (sc 11 0 11 (by simp [w_fo])).1 (sc 11 0 12 (by simp [w_fo])).1 (fun j => (sm 134 0 j (by simp [w_fom])).1) (sm 12 0 32 (by simp [w_fom])).1
  · exact g_cg R8 (fun j => (sc 26 0 j (by simp [w_fo])).1) (fun j => (sc 27 0 j (by simp [w_fo])).1) (sc 3 0 2 (by simp [w_fo])).1 (fun k j a b => (sm k 0 j (by simp [w_fom]; omega)).1) (sm 12 0 90 (by simp [w_fom])).1
  · exact r_p_cg2 (fun k n j q => sc k n j (by simp [rqC] at q; simp [w_fo]; omega)) (fun k n j q => (sm k n j (by simp [rqM] at q; simp [w_fom]; omega)).1) R9
  · exact hF
  · exact r_d_cg2 (fun l' j q => (sc 4 l' j (by rcases q with rfl | rfl | rfl | rfl <;> simp [w_fo])).1) (fun l' j => (sc 30 l' j (by simp [w_fo])).1) (fun j => (sm 117 0 j (by simp [w_fom])).1) RD
  · exact r_s_cg (fun l' => (sc 4 l' 18 (by simp [w_fo])).1) (fun t => (sc 8 t 4 (by simp [w_fo])).1) (fun j => (sm 184 0 j (by simp [w_fom])).1) RS
  · rw [(sc 11 0 10 (by simp [w_fo])).1]; exact r_u_cg (so_mono (fun k j h => by simp [wB] at h; simp [w_fo]; omega) sc) (so_mono (fun k j h => by simp [wBm] at h; simp [w_fom]; omega) sm) RU
  · exact hX
  · exact fun e r he a b => by rw [(sc 1006 _ 0 (by simp [w_fo])).1]; rw [(sc 1 e 4 (by simp [w_fo])).1] at a; exact RZ e r he a b
def w_ke (k : Nat) (j : Int) : Bool := k == 11 && j == 9
def w_kem (k : Nat) (j : Int) : Bool := k == 103 || (k == 12 && j == 4)
theorem x_ke (hf : f_ok f) (R : r_x f N B c m) (sc : so w_ke c c') (sm : so w_kem m m') (hX : k_R (c'.2.1 11 0 9) (m'.1 12 0 4) (fun j => m'.1 103 0 j)) : r_y f N B c m c' m' := by
  obtain ⟨⟨⟨R1, R2, R3, R4, R5, R6, R7, R8, R9, R10⟩, RD, RS, RU⟩, RX, RZ⟩ := R
  refine ⟨⟨⟨⟨?_, ?_, ?_, ?_, ?_, ?_, ?_, ?_, ?_, ?_⟩, ?_, ?_, ?_⟩, ?_, ?_⟩, so_mono (fun k j h => by simp [wC] at h; simp [w_ke]; omega) sc, so_mono (fun k j h => by simp [wR] at h; simp [w_kem]; omega) sm⟩
  · exact r_k_cg (fun k n j q => by have := sc k n j (by simp [rkC] at q; simp [w_ke]; omega); exact ⟨this.1, this.2.2⟩) (fun k n j q => (sm k n j (by simp [rkM] at q; simp [w_kem]; omega)).1) R1
  · exact r_l_cg (fun k n j q => (sc k n j (by simp [rlC] at q; simp [w_ke]; omega)).1) (fun k n j q => (sm k n j (by simp [rlM] at q; simp [w_kem]; omega)).1) R2
  · exact r_h_cg (fun k n j q => sc k n j (by simp [rdC] at q; simp [w_ke]; omega)) (fun k n j q => (sm k n j (by simp [rdM] at q; simp [w_kem]; omega)).1) R3
  · exact fun e he => r_m_cg (fun k n j q => by have := sc k n j (by simp [w_ke]; omega); exact ⟨this.1, this.2.1⟩) (fun k n j a b => (sm k n j (by simp [w_kem]; omega)).1) (R4 e he)
  · exact q_cg R5 (fun n => by rw [(sc 0 n 9 (by simp [w_ke])).1, (sc 0 n 5 (by simp [w_ke])).2.2, (sc 0 n 14 (by simp [w_ke])).1]; exact ⟨Iff.rfl, fun _ => ⟨rfl, rfl⟩⟩) hf (fun n j => (sc 2 n j (by simp [w_ke])).1) (fun n j => (sc 25 n j (by simp [w_ke])).2.2) (fun k j a b => (sm k 0 j (by simp [w_kem]; omega)).1)
  · exact rr_cg R6 (fun s _ _ => by rw [(sm 133 0 s (by simp [w_kem])).1, (sm 135 0 s (by simp [w_kem])).1, (sm 137 0 s (by simp [w_kem])).1]; exact ⟨Iff.rfl, fun _ _ _ _ => Iff.rfl⟩) (fun e r => (sc 23 e r (by simp [w_ke])).1) (sc 11 0 13 (by simp [w_ke])).1
  · exact a_cg R7 (fun n => by rw [(sc 0 n 9 (by simp [w_ke])).1]) (fun j => (sc 40 0 j (by simp [w_ke])).2.2) (sc 11 0 11 (by simp [w_ke])).1 (sc 11 0 12 (by simp [w_ke])).1 (fun j => (sm 134 0 j (by simp [w_kem])).1) (sm 12 0 32 (by simp [w_kem])).1
  · exact g_cg R8 (fun j => (sc 26 0 j (by simp [w_ke])).1) (fun j => (sc 27 0 j (by simp [w_ke])).1) (sc 3 0 2 (by simp [w_ke])).1 (fun k j a b => (sm k 0 j (by simp [w_kem]; omega)).1) (sm 12 0 90 (by simp [w_kem])).1
  · exact r_p_cg2 (fun k n j q => sc k n j (by simp [rqC] at q; simp [w_ke]; omega)) (fun k n j q => (sm k n j (by simp [rqM] at q; simp [w_kem]; omega)).1) R9
  · exact r_f_cg2 (fun k n j q => sc k n j (by simp [rfC] at q; simp [w_ke]; omega)) (fun k n j q => (sm k n j (by simp [rfM] at q; simp [w_kem]; omega)).1) R10
  · exact r_d_cg2 (fun l' j q => (sc 4 l' j (by rcases q with rfl | rfl | rfl | rfl <;> simp [w_ke])).1) (fun l' j => (sc 30 l' j (by simp [w_ke])).1) (fun j => (sm 117 0 j (by simp [w_kem])).1) RD
  · exact r_s_cg (fun l' => (sc 4 l' 18 (by simp [w_ke])).1) (fun t => (sc 8 t 4 (by simp [w_ke])).1) (fun j => (sm 184 0 j (by simp [w_kem])).1) RS
  · rw [(sc 11 0 10 (by simp [w_ke])).1]; exact r_u_cg (so_mono (fun k j h => by simp [wB] at h; simp [w_ke]; omega) sc) (so_mono (fun k j h => by simp [wBm] at h; simp [w_kem]; omega) sm) RU
  · exact hX
  · exact fun e r he a b => by rw [(sc 1006 _ 0 (by simp [w_ke])).1]; rw [(sc 1 e 4 (by simp [w_ke])).1] at a; exact RZ e r he a b
def w_pl (k : Nat) (j : Int) : Bool := k == 6 || k == 1006 || k == 22 || (k == 1 && j == 4) || (k == 11 && j == 9)
def w_plm (k : Nat) (j : Int) : Bool := (decide (105 ≤ k) && decide (k ≤ 111)) || (k == 12 && j == 4)
theorem x_pl (hf : f_ok f) (R : r_x f N B c m) (sc : so w_pl c c') (sm : so w_plm m m') (hH : r_h f N (-1) (-1) (-1) none (-1) (-1) c' m') (hP : r_p c' m') (hX : k_R (c'.2.1 11 0 9) (m'.1 12 0 4) (fun j => m'.1 103 0 j)) (hZ : r_z c') : r_y f N B c m c' m' := by
  obtain ⟨⟨⟨R1, R2, R3, R4, R5, R6, R7, R8, R9, R10⟩, RD, RS, RU⟩, RX, RZ⟩ := R
  refine ⟨⟨⟨⟨?_, ?_, ?_, ?_, ?_, ?_, ?_, ?_, ?_, ?_⟩, ?_, ?_, ?_⟩, ?_, ?_⟩, so_mono (fun k j h => by simp [wC] at h; simp [w_pl]; omega) sc, so_mono (fun k j h => by simp [wR] at h; simp [w_plm]; omega) sm⟩
  · exact r_k_cg (fun k n j q => by have := sc k n j (by simp [rkC] at q; simp [w_pl]; omega); exact ⟨this.1, this.2.2⟩) (fun k n j q => (sm k n j (by simp [rkM] at q; simp [w_plm]; omega)).1) R1
  · exact r_l_cg (fun k n j q => (sc k n j (by simp [rlC] at q; simp [w_pl]; omega)).1) (fun k n j q => (sm k n j (by simp [rlM] at q; simp [w_plm]; omega)).1) R2
  · exact hH
  · exact fun e he => r_m_cg (fun k n j q => by have := sc k n j (by simp [w_pl]; omega); exact ⟨this.1, this.2.1⟩) (fun k n j a b => (sm k n j (by simp [w_plm]; omega)).1) (R4 e he)
  · exact q_cg R5 (fun n => by rw [(sc 0 n 9 (by simp [w_pl])).1, (sc 0 n 5 (by simp [w_pl])).2.2, (sc 0 n 14 (by simp [w_pl])).1]; exact ⟨Iff.rfl, fun _ => ⟨rfl, rfl⟩⟩) hf (fun n j => (sc 2 n j (by simp [w_pl])).1) (fun n j => (sc 25 n j (by simp [w_pl])).2.2) (fun k j a b => (sm k 0 j (by simp [w_plm]; omega)).1)
  · exact rr_cg R6 (fun s _ _ => by rw [(sm 133 0 s (by simp [w_plm])).1, (sm 135 0 s (by simp [w_plm])).1, (sm 137 0 s (by simp [w_plm])).1]; exact ⟨Iff.rfl, fun _ _ _ _ => Iff.rfl⟩) (fun e r => (sc 23 e r (by simp [w_pl])).1) (sc 11 0 13 (by simp [w_pl])).1
  · exact a_cg R7 (fun n => by rw [(sc 0 n 9 (by simp [w_pl])).1]) (fun j => (sc 40 0 j (by simp [w_pl])).2.2) (sc 11 0 11 (by simp [w_pl])).1 (sc 11 0 12 (by simp [w_pl])).1 (fun j => (sm 134 0 j (by simp [w_plm])).1) (sm 12 0 32 (by simp [w_plm])).1
  · exact g_cg R8 (fun j => (sc 26 0 j (by simp [w_pl])).1) (fun j => (sc 27 0 j (by simp [w_pl])).1) (sc 3 0 2 (by simp [w_pl])).1 (fun k j a b => (sm k 0 j (by simp [w_plm]; omega)).1) (sm 12 0 90 (by simp [w_plm])).1
  · exact hP
  · exact r_f_cg2 (fun k n j q => sc k n j (by simp [rfC] at q; simp [w_pl]; omega)) (fun k n j q => (sm k n j (by simp [rfM] at q; simp [w_plm]; omega)).1) R10
  · exact r_d_cg2 (fun l' j q => (sc 4 l' j (by rcases q with rfl | rfl | rfl | rfl <;> simp [w_pl])).1) (fun l' j => (sc 30 l' j (by simp [w_pl])).1) (fun j => (sm 117 0 j (by simp [w_plm])).1) RD
  · exact r_s_cg (fun l' => (sc 4 l' 18 (by simp [w_pl])).1) (fun t => (sc 8 t 4 (by simp [w_pl])).1) (fun j => (sm 184 0 j (by simp [w_plm])).1) RS
  · rw [(sc 11 0 10 (by simp [w_pl])).1]; exact r_u_cg (so_mono (fun k j h => by simp [wB] at h; simp [w_pl]; omega) sc) (so_mono (fun k j h => by simp [wBm] at h; simp [w_plm]; omega) sm) RU
  · exact hX
  · exact hZ
def w_sp (k : Nat) (j : Int) : Bool := (k == 7 || k == 34 || k == 35) && j == j
def w_spm (k : Nat) (j : Int) : Bool := (decide (175 ≤ k) && decide (k ≤ 181)) || (k == 12 && (j == 75 || j == 79))
theorem x_sp (hf : f_ok f) (R : r_x f N B c m) (sc : so w_sp c c') (sm : so w_spm m m') (hU : r_u N (c.1 11 0 10) c' m') : r_y f N B c m c' m' := by
  obtain ⟨⟨⟨R1, R2, R3, R4, R5, R6, R7, R8, R9, R10⟩, RD, RS, RU⟩, RX, RZ⟩ := R
  refine ⟨⟨⟨⟨?_, ?_, ?_, ?_, ?_, ?_, ?_, ?_, ?_, ?_⟩, ?_, ?_, ?_⟩, ?_, ?_⟩, so_mono (fun k j h => by simp [wC] at h; simp [w_sp]; omega) sc, so_mono (fun k j h => by simp [wR] at h; simp [w_spm]; omega) sm⟩
  · exact r_k_cg (fun k n j q => by have := sc k n j (by simp [rkC] at q; simp [w_sp]; omega); exact ⟨this.1, this.2.2⟩) (fun k n j q => (sm k n j (by simp [rkM] at q; simp [w_spm]; omega)).1) R1
  · exact r_l_cg (fun k n j q => (sc k n j (by simp [rlC] at q; simp [w_sp]; omega)).1) (fun k n j q => (sm k n j (by simp [rlM] at q; simp [w_spm]; omega)).1) R2
  · exact r_h_cg (fun k n j q => sc k n j (by simp [rdC] at q; simp [w_sp]; omega)) (fun k n j q => (sm k n j (by simp [rdM] at q; simp [w_spm]; omega)).1) R3
  · exact fun e he => r_m_cg (fun k n j q => by have := sc k n j (by simp [w_sp]; omega); exact ⟨this.1, this.2.1⟩) (fun k n j a b => (sm k n j (by simp [w_spm]; omega)).1) (R4 e he)
  · exact q_cg R5 (fun n => by rw [(sc 0 n 9 (by simp [w_sp])).1, (sc 0 n 5 (by simp [w_sp])).2.2, (sc 0 n 14 (by simp [w_sp])).1]; exact ⟨Iff.rfl, fun _ => ⟨rfl, rfl⟩⟩) hf (fun n j => (sc 2 n j (by simp [w_sp])).1) (fun n j => (sc 25 n j (by simp [w_sp])).2.2) (fun k j a b => (sm k 0 j (by simp [w_spm]; omega)).1)
  · exact rr_cg R6 (fun s _ _ => by rw [(sm 133 0 s (by simp [w_spm])).1, (sm 135 0 s (by simp [w_spm])).1, (sm 137 0 s (by simp [w_spm])).1]; exact ⟨Iff.rfl, fun _ _ _ _ => Iff.rfl⟩) (fun e r => (sc 23 e r (by simp [w_sp])).1) (sc 11 0 13 (by simp [w_sp])).1
  · exact a_cg R7 (fun n => by rw [(sc 0 n 9 (by simp [w_sp])).1]) (fun j => (sc 40 0 j (by simp [w_sp])).2.2) (sc 11 0 11 (by simp [w_sp])).1 (sc 11 0 12 (by simp [w_sp])).1 (fun j => (sm 134 0 j (by simp [w_spm])).1) (sm 12 0 32 (by simp [w_spm])).1
  · exact g_cg R8 (fun j => (sc 26 0 j (by simp [w_sp])).1) (fun j => (sc 27 0 j (by simp [w_sp])).1) (sc 3 0 2 (by simp [w_sp])).1 (fun k j a b => (sm k 0 j (by simp [w_spm]; omega)).1) (sm 12 0 90 (by simp [w_spm])).1
  · exact r_p_cg2 (fun k n j q => sc k n j (by simp [rqC] at q; simp [w_sp]; omega)) (fun k n j q => (sm k n j (by simp [rqM] at q; simp [w_spm]; omega)).1) R9
  · exact r_f_cg2 (fun k n j q => sc k n j (by simp [rfC] at q; simp [w_sp]; omega)) (fun k n j q => (sm k n j (by simp [rfM] at q; simp [w_spm]; omega)).1) R10
  · exact r_d_cg2 (fun l' j q => (sc 4 l' j (by rcases q with rfl | rfl | rfl | rfl <;> simp [w_sp])).1) (fun l' j => (sc 30 l' j (by simp [w_sp])).1) (fun j => (sm 117 0 j (by simp [w_spm])).1) RD
  · exact r_s_cg (fun l' => (sc 4 l' 18 (by simp [w_sp])).1) (fun t => (sc 8 t 4 (by simp [w_sp])).1) (fun j => (sm 184 0 j (by simp [w_spm])).1) RS
  · rw [(sc 11 0 10 (by simp [w_sp])).1]; exact hU
  · exact by rw [(sc 11 0 9 (by simp [w_sp])).2.1, (sm 12 0 4 (by simp [w_spm])).1]; exact k_R_cg (fun j => (sm 103 0 j (by simp [w_spm])).1) RX
  · exact fun e r he a b => by rw [(sc 1006 _ 0 (by simp [w_sp])).1]; rw [(sc 1 e 4 (by simp [w_sp])).1] at a; exact RZ e r he a b
def w_bi (k : Nat) (j : Int) : Bool := k == 36 || k == 10 || (k == 11 && j == 300)
def w_bim (k : Nat) (j : Int) : Bool := k == 500 && j == j
theorem x_bi (hf : f_ok f) (R : r_x f N B c m) (sc : so w_bi c c') (sm : so w_bim m m')  : r_y f N B c m c' m' := by
  obtain ⟨⟨⟨R1, R2, R3, R4, R5, R6, R7, R8, R9, R10⟩, RD, RS, RU⟩, RX, RZ⟩ := R
  refine ⟨⟨⟨⟨?_, ?_, ?_, ?_, ?_, ?_, ?_, ?_, ?_, ?_⟩, ?_, ?_, ?_⟩, ?_, ?_⟩, so_mono (fun k j h => by simp [wC] at h; simp [w_bi]; omega) sc, so_mono (fun k j h => by simp [wR] at h; simp [w_bim]; omega) sm⟩
  · exact r_k_cg (fun k n j q => by have := sc k n j (by simp [rkC] at q; simp [w_bi]; omega); exact ⟨this.1, this.2.2⟩) (fun k n j q => (sm k n j (by simp [rkM] at q; simp [w_bim]; omega)).1) R1
  · exact r_l_cg (fun k n j q => (sc k n j (by simp [rlC] at q; simp [w_bi]; omega)).1) (fun k n j q => (sm k n j (by simp [rlM] at q; simp [w_bim]; omega)).1) R2
  · exact r_h_cg (fun k n j q => sc k n j (by simp [rdC] at q; simp [w_bi]; omega)) (fun k n j q => (sm k n j (by simp [rdM] at q; simp [w_bim]; omega)).1) R3
  · exact fun e he => r_m_cg (fun k n j q => by have := sc k n j (by simp [w_bi]; omega); exact ⟨this.1, this.2.1⟩) (fun k n j a b => (sm k n j (by simp [w_bim]; omega)).1) (R4 e he)
  · exact q_cg R5 (fun n => by rw [(sc 0 n 9 (by simp [w_bi])).1, (sc 0 n 5 (by simp [w_bi])).2.2, (sc 0 n 14 (by simp [w_bi])).1]; exact ⟨Iff.rfl, fun _ => ⟨rfl, rfl⟩⟩) hf (fun n j => (sc 2 n j (by simp [w_bi])).1) (fun n j => (sc 25 n j (by simp [w_bi])).2.2) (fun k j a b => (sm k 0 j (by simp [w_bim]; omega)).1)
  · exact rr_cg R6 (fun s _ _ => by rw [(sm 133 0 s (by simp [w_bim])).1, (sm 135 0 s (by simp [w_bim])).1, (sm 137 0 s (by simp [w_bim])).1]; exact ⟨Iff.rfl, fun _ _ _ _ => Iff.rfl⟩) (fun e r => (sc 23 e r (by simp [w_bi])).1) (sc 11 0 13 (by simp [w_bi])).1
  · exact a_cg R7 (fun n => by rw [(sc 0 n 9 (by simp [w_bi])).1]) (fun j => (sc 40 0 j (by simp [w_bi])).2.2) (sc 11 0 11 (by simp [w_bi])).1 (sc 11 0 12 (by simp [w_bi])).1 (fun j => (sm 134 0 j (by simp [w_bim])).1) (sm 12 0 32 (by simp [w_bim])).1
  · exact g_cg R8 (fun j => (sc 26 0 j (by simp [w_bi])).1) (fun j => (sc 27 0 j (by simp [w_bi])).1) (sc 3 0 2 (by simp [w_bi])).1 (fun k j a b => (sm k 0 j (by simp [w_bim]; omega)).1) (sm 12 0 90 (by simp [w_bim])).1
  · exact r_p_cg2 (fun k n j q => sc k n j (by simp [rqC] at q; simp [w_bi]; omega)) (fun k n j q => (sm k n j (by simp [rqM] at q; simp [w_bim]; omega)).1) R9
  · exact r_f_cg2 (fun k n j q => sc k n j (by simp [rfC] at q; simp [w_bi]; omega)) (fun k n j q => (sm k n j (by simp [rfM] at q; simp [w_bim]; omega)).1) R10
  · exact r_d_cg2 (fun l' j q => (sc 4 l' j (by rcases q with rfl | rfl | rfl | rfl <;> simp [w_bi])).1) (fun l' j => (sc 30 l' j (by simp [w_bi])).1) (fun j => (sm 117 0 j (by simp [w_bim])).1) RD
  · exact r_s_cg (fun l' => (sc 4 l' 18 (by simp [w_bi])).1) (fun t => (sc 8 t 4 (by simp [w_bi])).1) (fun j => (sm 184 0 j (by simp [w_bim])).1) RS
  · rw [(sc 11 0 10 (by simp [w_bi])).1]; exact r_u_cg (so_mono (fun k j h => by simp [wB] at h; simp [w_bi]; omega) sc) (so_mono (fun k j h => by simp [wBm] at h; simp [w_bim]; omega) sm) RU
  · exact by rw [(sc 11 0 9 (by simp [w_bi])).2.1, (sm 12 0 4 (by simp [w_bim])).1]; exact k_R_cg (fun j => (sm 103 0 j (by simp [w_bim])).1) RX
  · exact fun e r he a b => by rw [(sc 1006 _ 0 (by simp [w_bi])).1]; rw [(sc 1 e 4 (by simp [w_bi])).1] at a; exact RZ e r he a b
def w_own (k : Nat) (j : Int) : Bool := (k == 12 || (decide (100 ≤ k) && decide (k < 1000))) && j == j
def w_ownm (k : Nat) (j : Int) : Bool := ((decide (k < 99) && k != 12) || k == 1006) && j == j
theorem x_own (hf : f_ok f) (R : r_x f N B c m) (sc : so w_own c c') (sm : so w_ownm m m')  : r_x f N B c' m' := by
  obtain ⟨⟨⟨R1, R2, R3, R4, R5, R6, R7, R8, R9, R10⟩, RD, RS, RU⟩, RX, RZ⟩ := R
  refine ⟨⟨⟨?_, ?_, ?_, ?_, ?_, ?_, ?_, ?_, ?_, ?_⟩, ?_, ?_, ?_⟩, ?_, ?_⟩
  · exact r_k_cg (fun k n j q => by have := sc k n j (by simp [rkC] at q; simp [w_own]; omega); exact ⟨this.1, this.2.2⟩) (fun k n j q => (sm k n j (by simp [rkM] at q; simp [w_ownm]; omega)).1) R1
  · exact r_l_cg (fun k n j q => (sc k n j (by simp [rlC] at q; simp [w_own]; omega)).1) (fun k n j q => (sm k n j (by simp [rlM] at q; simp [w_ownm]; omega)).1) R2
  · exact r_h_cg (fun k n j q => sc k n j (by simp [rdC] at q; simp [w_own]; omega)) (fun k n j q => (sm k n j (by simp [rdM] at q; simp [w_ownm]; omega)).1) R3
  · exact fun e he => r_m_cg (fun k n j q => by have := sc k n j (by simp [w_own]; omega); exact ⟨this.1, this.2.1⟩) (fun k n j a b => (sm k n j (by simp [w_ownm]; omega)).1) (R4 e he)
  · exact q_cg R5 (fun n => by rw [(sc 0 n 9 (by simp [w_own])).1, (sc 0 n 5 (by simp [w_own])).2.2, (sc 0 n 14 (by simp [w_own])).1]; exact ⟨Iff.rfl, fun _ => ⟨rfl, rfl⟩⟩) hf (fun n j => (sc 2 n j (by simp [w_own])).1) (fun n j => (sc 25 n j (by simp [w_own])).2.2) (fun k j a b => (sm k 0 j (by simp [w_ownm]; omega)).1)
  · exact rr_cg R6 (fun s _ _ => by rw [(sm 133 0 s (by simp [w_ownm])).1, (sm 135 0 s (by simp [w_ownm])).1, (sm 137 0 s (by simp [w_ownm])).1]; exact ⟨Iff.rfl, fun _ _ _ _ => Iff.rfl⟩) (fun e r => (sc 23 e r (by simp [w_own])).1) (sc 11 0 13 (by simp [w_own])).1
  · exact a_cg R7 (fun n => by rw [(sc 0 n 9 (by simp [w_own])).1]) (fun j => (sc 40 0 j (by simp [w_own])).2.2) (sc 11 0 11 (by simp [w_own])).1 (sc 11 0 12 (by simp [w_own])).1 (fun j => (sm 134 0 j (by simp [w_ownm])).1) (sm 12 0 32 (by simp [w_ownm])).1
  · exact g_cg R8 (fun j => (sc 26 0 j (by simp [w_own])).1) (fun j => (sc 27 0 j (by simp [w_own])).1) (sc 3 0 2 (by simp [w_own])).1 (fun k j a b => (sm k 0 j (by simp [w_ownm]; omega)).1) (sm 12 0 90 (by simp [w_ownm])).1
  · exact r_p_cg2 (fun k n j q => sc k n j (by simp [rqC] at q; simp [w_own]; omega)) (fun k n j q => (sm k n j (by simp [rqM] at q; simp [w_ownm]; omega)).1) R9
  · exact r_f_cg2 (fun k n j q => sc k n j (by simp [rfC] at q; simp [w_own]; omega)) (fun k n j q => (sm k n j (by simp [rfM] at q; simp [w_ownm]; omega)).1) R10
  · exact r_d_cg2 (fun l' j q => (sc 4 l' j (by rcases q with rfl | rfl | rfl | rfl <;> simp [w_own])).1) (fun l' j => (sc 30 l' j (by simp [w_own])).1) (fun j => (sm 117 0 j (by simp [w_ownm])).1) RD
  · exact r_s_cg (fun l' => (sc 4 l' 18 (by simp [w_own])).1) (fun t => (sc 8 t 4 (by simp [w_own])).1) (fun j => (sm 184 0 j (by simp [w_ownm])).1) RS
  · rw [(sc 11 0 10 (by simp [w_own])).1]; exact r_u_cg (so_mono (fun k j h => by simp [wB] at h; simp [w_own]; omega) sc) (so_mono (fun k j h => by simp [wBm] at h; simp [w_ownm]; omega) sm) RU
  · exact by rw [(sc 11 0 9 (by simp [w_own])).2.1, (sm 12 0 4 (by simp [w_ownm])).1]; exact k_R_cg (fun j => (sm 103 0 j (by simp [w_ownm])).1) RX
  · exact fun e r he a b => by rw [(sc 1006 _ 0 (by simp [w_own])).1]; rw [(sc 1 e 4 (by simp [w_own])).1] at a; exact RZ e r he a b
end RK
