/-! ===== what the tick carries besides ===== -/
def wB (k : Nat) (_ : Int) : Bool := !(k == 9 || k == 7 || k == 34 || k == 35)
def wBm (k : Nat) (j : Int) : Bool := !((decide (171 ≤ k) && decide (k ≤ 181)) || (k == 12 && (j == 75 || j == 79)))
def r_u (N n : Int) (c m : JM) : Prop := r_t (2 * n) c m ∧ r_wn N n c m ∧ r_kn n c m
section TK
variable {f : Int → Int} {N n : Int} {c m c' m' : JM} {B : Int} {H : HT}
theorem ts_cg {R : List (Int × Int)} (hm : so wBm m m') (T : ts m R) : ts m' R := by
  obtain ⟨a, b, d⟩ := T
  refine ⟨by rw [(hm 12 0 75 rfl).1]; exact a, b, fun j q => ?_⟩
  rw [(hm 176 0 j rfl).1, (hm 177 0 j rfl).1, (hm 178 0 j rfl).1]; exact d j q
theorem tl_cg {R : List (Int × Int)} (hm : so wBm m m') (T : tl m R) : tl m' R := by
  obtain ⟨a, b, d⟩ := T
  refine ⟨by rw [(hm 12 0 79 rfl).1]; exact a, b, fun j q => ?_⟩
  rw [(hm 180 0 j rfl).1, (hm 181 0 j rfl).1]; exact d j q
theorem r_u_cg (hc : so wB c c') (hm : so wBm m m') (U : r_u N n c m) : r_u N n c' m' := by
  obtain ⟨⟨⟨R0, a1, a2, a3⟩, ⟨R1, b1, b2, b3⟩⟩, W, K⟩ := U
  have k9 : ∀ u j, c'.1 9 u j = c.1 9 u j ∧ c'.2.1 9 u j = c.2.1 9 u j := fun u j => ⟨(hc 9 u j rfl).1, (hc 9 u j rfl).2.1⟩
  refine ⟨⟨⟨R0, ts_cg hm a1, tc_cg (fun k j q => (hc k 0 j (by rcases q with rfl | rfl | rfl <;> rfl)).1) a2, a3⟩, ⟨R1, tl_cg hm b1, tc_cg (fun k j q => (hc k 1 j (by rcases q with rfl | rfl | rfl <;> rfl)).1) b2, b3⟩⟩, fun e s he a b => ?_, fun e s he a b d => ?_⟩
  · rcases W e s he a b with ⟨q1, q2⟩ | ⟨q1, q2⟩
    · exact Or.inl ⟨q1, by rw [(k9 _ 5).1]; exact q2⟩
    · exact Or.inr ⟨q1, fl_cg (fun j => k9 _ j) (fun j => ⟨(hm 173 0 j rfl).1, (hm 174 0 j rfl).1⟩) q2⟩
  · exact kp_cg (fun j => k9 _ j) (fun j _ => (hm 171 0 _ rfl).1) (hm 172 0 _ rfl).1 (K e s he a b d)
theorem r_d_cg2 (h4 : ∀ l j, j = 4 ∨ j = 8 ∨ j = 9 ∨ j = 10 → c'.1 4 l j = c.1 4 l j) (h30 : ∀ l j, c'.1 30 l j = c.1 30 l j) (hm : ∀ j, m'.1 117 0 j = m.1 117 0 j) (D : r_d c m) : r_d c' m' := fun l a b => by
  rw [h4 l 4 (by omega), h4 l 8 (by omega), h4 l 9 (by omega), h4 l 10 (by omega)]
  obtain ⟨d1, d2, d3, d4⟩ := D l a b
  exact ⟨d1, d2, d3, fun j x y => by rw [h30, hm]; exact d4 j x y⟩
theorem r_s_cg (h4 : ∀ l, c'.1 4 l 18 = c.1 4 l 18) (h8 : ∀ t, c'.1 8 t 4 = c.1 8 t 4) (hm : ∀ j, m'.1 184 0 j = m.1 184 0 j) (S : r_s N c m) : r_s N c' m' :=
  ⟨fun l a b => by rw [h4]; exact S.1 l a b, fun e k he a b => by rw [hm, h8]; exact S.2 e k he a b⟩
/-- one tick later -/
theorem rel_now (hf : f_ok f) (R : relN f N B H c m) (h : c.1 11 0 10 < 10000000) : relN f N B H (sI c 11 0 10 (c.1 11 0 10 + 1)) (sI m 12 0 2 (m.1 12 0 2 + 1)) := by
  obtain ⟨R1, R2, R3, R4, R5, R6, R7, R8, R9, R10⟩ := R
  have sc : so (fun k j => k == 11 && j == 10) c (sI c 11 0 10 (c.1 11 0 10 + 1)) := so_I (so_rfl c) rfl _ _
  have sm : so (fun k j => k == 12 && j == 2) m (sI m 12 0 2 (m.1 12 0 2 + 1)) := so_I (so_rfl m) rfl _ _
  generalize hc' : sI c 11 0 10 (c.1 11 0 10 + 1) = c' at sc ⊢
  generalize hm' : sI m 12 0 2 (m.1 12 0 2 + 1) = m' at sm ⊢
  have e1 : c'.1 11 0 10 = c.1 11 0 10 + 1 := by rw [← hc', rI_I, if_pos ⟨rfl, rfl, rfl⟩]
  have e2 : m'.1 12 0 2 = m.1 12 0 2 + 1 := by rw [← hm', rI_I, if_pos ⟨rfl, rfl, rfl⟩]
  refine ⟨?_, ?_, ?_, ?_, ?_, ?_, ?_, ?_, ?_, ?_⟩
  · obtain ⟨a1, a2, a3, a4, a5, a6, a7, a8, a9, a10, a11, a12, a13⟩ := R1
    refine ⟨by rw [(sc 11 0 0 rfl).1]; exact a1, by rw [(sm 12 0 0 rfl).1]; exact a2, a3, a4, by rw [(sc 11 0 1 rfl).1, (sm 12 0 1 rfl).1]; exact a5, by rw [(sc 11 0 1 rfl).1]; exact a6, by rw [(sc 11 0 1 rfl).1]; exact a7, by rw [e1, e2, a8], by rw [e1]; omega, by rw [e1]; omega, fun e he => ?_, fun l x y => ?_, fun e k he x y => ?_⟩
    · rw [(sc 1020 e 1 rfl).1, (sc 1 e 0 rfl).1]; exact a11 e he
    · rw [(sc 4 l 0 rfl).1]; exact a12 l x y
    · rw [(sc 8 _ 0 rfl).1, (sc 8 _ 1 rfl).2.2]; exact a13 e k he x y
  · exact r_l_cg (fun k n j q => (sc k n j (by simp [rlC] at q; simp; omega)).1) (fun k n j q => (sm k n j (by simp [rlM] at q; simp; omega)).1) R2
  · exact r_h_cg (fun k n j q => sc k n j (by simp [rdC] at q; simp; omega)) (fun k n j q => (sm k n j (by simp [rdM] at q; simp; omega)).1) R3
  · exact fun e he => r_m_cg (fun k n j q => by rcases q with rfl | rfl <;> exact ⟨(sc _ n j rfl).1, (sc _ n j rfl).2.1⟩) (fun k n j a b => (sm k n j (by simp; omega)).1) (R4 e he)
  · exact q_cg R5 (fun n => by rw [(sc 0 n 9 rfl).1, (sc 0 n 5 rfl).2.2, (sc 0 n 14 rfl).1]; exact ⟨Iff.rfl, fun _ => ⟨rfl, rfl⟩⟩) hf (fun n j => (sc 2 n j rfl).1) (fun n j => (sc 25 n j rfl).2.2) (fun k j a b => (sm k 0 j (by simp; omega)).1)
  · exact rr_cg R6 (fun s _ _ => by rw [(sm 133 0 s rfl).1, (sm 135 0 s rfl).1, (sm 137 0 s rfl).1]; exact ⟨Iff.rfl, fun _ _ _ _ => Iff.rfl⟩) (fun e r => (sc 23 e r rfl).1) (sc 11 0 13 rfl).1
  · exact a_cg R7 (fun n => by rw [(sc 0 n 9 rfl).1]) (fun j => (sc 40 0 j rfl).2.2) (sc 11 0 11 rfl).1 (sc 11 0 12 rfl).1 (fun j => (sm 134 0 j rfl).1) (sm 12 0 32 rfl).1
  · exact g_cg R8 (fun j => (sc 26 0 j rfl).1) (fun j => (sc 27 0 j rfl).1) (sc 3 0 2 rfl).1 (fun k j a b => (sm k 0 j (by simp; omega)).1) (sm 12 0 90 rfl).1
  · exact r_p_cg (fun k n j q => sc k n j (by simp [rpC] at q; simp; omega)) (fun k n j q => (sm k n j (by simp [rpM] at q; simp; omega)).1) R9
  · exact r_f_cg (fun k n j q => sc k n j (by simp [rpC] at q; simp; omega)) (fun k n j q => (sm k n j (by simp [rpM] at q; simp; omega)).1) R10
end TK
