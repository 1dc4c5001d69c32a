/-! ===== a unit is filled ===== -/
def w_o (k : Nat) (j : Int) : Bool := (k == 5 && (j == 2 || j == 3)) || k == 9 || k == 10 || k == 36 || k == 37 || k == 7 || k == 34 || k == 35
def w_om (k : Nat) (j : Int) : Bool := k == 162 || k == 163 || k == 169 || (decide (171 ≤ k) && decide (k ≤ 182)) || (k == 12 && (j == 70 || j == 83))
section SP
variable {f : Int → Int} {N z1 z2 X : Int} {sec : Option Int} {Y zd : Int} {c m c' m' : JM} {B B' : Int} {H : HT}
theorem rel_o (hf : f_ok f) (R : relN f N B H c m) (sc : so w_o c c') (sm : so w_om m m') (h4 : ∀ e, e = 0 ∨ e = 1 → r_m B c' m' e) : relN f N B H c' m' := by
  obtain ⟨R1, R2, R3, R4, R5, R6, R7, R8, R9, R10⟩ := R
  refine ⟨?_, ?_, ?_, h4, ?_, ?_, ?_, ?_, ?_, ?_⟩
  · exact r_k_cg (fun k n j q => by have := sc k n j (by simp [rkC] at q; simp [w_o]; omega); exact ⟨this.1, this.2.2⟩) (fun k n j q => (sm k n j (by simp [rkM] at q; simp [w_om]; omega)).1) R1
  · exact r_l_cg (fun k n j q => (sc k n j (by simp [rlC] at q; simp [w_o]; omega)).1) (fun k n j q => (sm k n j (by simp [rlM] at q; simp [w_om]; omega)).1) R2
  · exact r_h_cg (fun k n j q => sc k n j (by simp [rdC] at q; simp [w_o]; omega)) (fun k n j q => (sm k n j (by simp [rdM] at q; simp [w_om]; omega)).1) R3
  · exact q_cg R5 (fun n => by rw [(sc 0 n 9 rfl).1, (sc 0 n 5 rfl).2.2, (sc 0 n 14 rfl).1]; exact ⟨Iff.rfl, fun _ => ⟨rfl, rfl⟩⟩) hf (fun n j => (sc 2 n j rfl).1) (fun n j => (sc 25 n j rfl).2.2) (fun k j a b => (sm k 0 j (by simp [w_om]; omega)).1)
  · exact rr_cg R6 (fun s _ _ => by rw [(sm 133 0 s rfl).1, (sm 135 0 s rfl).1, (sm 137 0 s rfl).1]; exact ⟨Iff.rfl, fun _ _ _ _ => Iff.rfl⟩) (fun e r => (sc 23 e r rfl).1) (sc 11 0 13 rfl).1
  · exact a_cg R7 (fun n => by rw [(sc 0 n 9 rfl).1]) (fun j => (sc 40 0 j rfl).2.2) (sc 11 0 11 rfl).1 (sc 11 0 12 rfl).1 (fun j => (sm 134 0 j rfl).1) (sm 12 0 32 rfl).1
  · exact g_cg R8 (fun j => (sc 26 0 j rfl).1) (fun j => (sc 27 0 j rfl).1) (sc 3 0 2 rfl).1 (fun k j a b => (sm k 0 j (by simp [w_om]; omega)).1) (sm 12 0 90 rfl).1
  · exact r_p_cg (fun k n j q => sc k n j (by simp [rpC] at q; simp [w_o]; omega)) (fun k n j q => (sm k n j (by simp [rpM] at q; simp [w_om]; omega)).1) R9
  · exact r_f_cg (fun k n j q => sc k n j (by simp [rpC] at q; simp [w_o]; omega)) (fun k n j q => (sm k n j (by simp [rpM] at q; simp [w_om]; omega)).1) R10
/-- links are as they were but for the next and the highest of one -/
theorem r_m_nx {e : Int} (he : e = 0 ∨ e = 1) (R4 : ∀ e, e = 0 ∨ e = 1 → r_m B c m e) {X2 X3 : Int} (hc : ∀ n j, c'.1 5 n j = if n = e ∧ j = 2 then X2 else if n = e ∧ j = 3 then X3 else c.1 5 n j) (hm : ∀ k j, 160 ≤ k → k ≤ 167 → m'.1 k 0 j = if k = 162 ∧ j = e then X2 else if k = 163 ∧ j = e then X3 else m.1 k 0 j) (c31 : ∀ n j, c'.2.1 31 n j = c.2.1 31 n j) (m158 : ∀ j, m'.1 158 0 j = m.1 158 0 j) (m159 : ∀ j, m'.1 159 0 j = m.1 159 0 j) (hX : c.1 5 e 1 ≤ X2 ∧ X2 ≤ X3 ∧ X3 ≤ c.1 5 e 0) : ∀ e, e = 0 ∨ e = 1 → r_m B c' m' e := fun x hx => by
  obtain ⟨q1, q2, q3⟩ := R4 x hx
  have c0 : c'.1 5 x 0 = c.1 5 x 0 := by rw [hc, if_neg (by omega), if_neg (by omega)]
  have c1 : c'.1 5 x 1 = c.1 5 x 1 := by rw [hc, if_neg (by omega), if_neg (by omega)]
  have c4 : c'.1 5 x 4 = c.1 5 x 4 := by rw [hc, if_neg (by omega), if_neg (by omega)]
  have c5 : c'.1 5 x 5 = c.1 5 x 5 := by rw [hc, if_neg (by omega), if_neg (by omega)]
  have c6 : c'.1 5 x 6 = c.1 5 x 6 := by rw [hc, if_neg (by omega), if_neg (by omega)]
  have c7 : c'.1 5 x 7 = c.1 5 x 7 := by rw [hc, if_neg (by omega), if_neg (by omega)]
  have mk : ∀ k, 160 ≤ k → k ≤ 167 → k ≠ 162 → k ≠ 163 → m'.1 k 0 x = m.1 k 0 x := fun k a b d e => by rw [hm k x a b, if_neg (by omega), if_neg (by omega)]
  refine ⟨⟨?_, ?_, ?_, ?_, ?_, ?_, ?_, ?_⟩, ?_, fun i i0 i1 => ?_⟩
  · rw [mk 160 (by decide) (by decide) (by decide) (by decide), c0]; exact q1.1
  · rw [mk 161 (by decide) (by decide) (by decide) (by decide), c1]; exact q1.2.1
  · rw [hm 162 x (by decide) (by decide), hc]
    by_cases z : x = e
    · rw [if_pos ⟨rfl, z⟩, if_pos ⟨z, rfl⟩]
    · rw [if_neg (by omega), if_neg (by omega), if_neg (by omega), if_neg (by omega)]; exact q1.2.2.1
  · rw [hm 163 x (by decide) (by decide), hc]
    by_cases z : x = e
    · rw [if_neg (by omega), if_pos ⟨rfl, z⟩, if_neg (by omega), if_pos ⟨z, rfl⟩]
    · rw [if_neg (by omega), if_neg (by omega), if_neg (by omega), if_neg (by omega)]; exact q1.2.2.2.1
  · rw [mk 164 (by decide) (by decide) (by decide) (by decide), c4]; exact q1.2.2.2.2.1
  · rw [mk 165 (by decide) (by decide) (by decide) (by decide), c5]; exact q1.2.2.2.2.2.1
  · rw [mk 166 (by decide) (by decide) (by decide) (by decide), c6]; exact q1.2.2.2.2.2.2.1
  · rw [mk 167 (by decide) (by decide) (by decide) (by decide), c7]; exact q1.2.2.2.2.2.2.2
  · rw [c0, c1, c4, c5, c6, c7]
    by_cases z : x = e
    · have c2 : c'.1 5 x 2 = X2 := by rw [hc, if_pos ⟨z, rfl⟩]
      have c3 : c'.1 5 x 3 = X3 := by rw [hc, if_neg (by omega), if_pos ⟨z, rfl⟩]
      subst z
      rw [c2, c3]; omega
    · have c2 : c'.1 5 x 2 = c.1 5 x 2 := by rw [hc, if_neg (by omega), if_neg (by omega)]
      have c3 : c'.1 5 x 3 = c.1 5 x 3 := by rw [hc, if_neg (by omega), if_neg (by omega)]
      rw [c2, c3]; exact q2
  · rw [c1] at i0
    rw [c0] at i1
    obtain ⟨L, l1, l2, l3⟩ := q3 i i0 i1
    exact ⟨L, by rw [c31]; exact l1, by rw [m159]; exact l2, fun j hj => by rw [m158]; exact l3 j hj⟩
theorem mg_b {L : List Nat} {x : Int} (h : mg L x) : ∀ j, L.getD j 0 < 256 := fun j => by
  by_cases z : j < L.length
  · exact (mg_byte h z (fun _ _ _ => 0, fun _ _ _ => 0, fun _ _ _ => none)).2
  · rw [List.getD_eq_getElem?_getD, List.getElem?_eq_none (by omega)]; decide
end SP
