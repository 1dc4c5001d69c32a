/-! ===== hooks and sayings ===== -/
def w_ln (k : Nat) (j : Int) : Bool := k == 4 && (j == 5 || j == 18)
def w_lnm (k : Nat) (_ : Int) : Bool := k == 113 || k == 130
section RI
variable {f : Int → Int} {N : Int} {c m c' m' : JM} {B : Int} {H : HT}
theorem rel_ln (hf : f_ok f) (R : relN f N B H c m) (sc : so w_ln c c') (sm : so w_lnm m m') (h2 : r_l (-1) c' m') : relN f N B H c' m' := by
  obtain ⟨R1, R2, R3, R4, R5, R6, R7, R8, R9, R10⟩ := R
  refine ⟨?_, h2, ?_, ?_, ?_, ?_, ?_, ?_, ?_, ?_⟩
  · exact r_k_cg (fun k n j q => by have := sc k n j (by simp [rkC] at q; simp [w_ln]; omega); exact ⟨this.1, this.2.2⟩) (fun k n j q => (sm k n j (by simp [rkM] at q; simp [w_lnm]; omega)).1) R1
  · exact r_h_cg (fun k n j q => sc k n j (by simp [rdC] at q; simp [w_ln]; omega)) (fun k n j q => (sm k n j (by simp [rdM] at q; simp [w_lnm]; omega)).1) R3
  · exact fun e he => r_m_cg (fun k n j q => by rcases q with rfl | rfl <;> exact ⟨(sc _ n j rfl).1, (sc _ n j rfl).2.1⟩) (fun k n j a b => (sm k n j (by simp [w_lnm]; omega)).1) (R4 e he)
  · exact q_cg R5 (fun n => by rw [(sc 0 n 9 rfl).1, (sc 0 n 5 rfl).2.2, (sc 0 n 14 rfl).1]; exact ⟨Iff.rfl, fun _ => ⟨rfl, rfl⟩⟩) hf (fun n j => (sc 2 n j rfl).1) (fun n j => (sc 25 n j rfl).2.2) (fun k j a b => (sm k 0 j (by simp [w_lnm]; omega)).1)
  · exact rr_cg R6 (fun s _ _ => by rw [(sm 133 0 s rfl).1, (sm 135 0 s rfl).1, (sm 137 0 s rfl).1]; exact ⟨Iff.rfl, fun _ _ _ _ => Iff.rfl⟩) (fun e r => (sc 23 e r rfl).1) (sc 11 0 13 rfl).1
  · exact a_cg R7 (fun n => by rw [(sc 0 n 9 rfl).1]) (fun j => (sc 40 0 j rfl).2.2) (sc 11 0 11 rfl).1 (sc 11 0 12 rfl).1 (fun j => (sm 134 0 j rfl).1) (sm 12 0 32 rfl).1
  · exact g_cg R8 (fun j => (sc 26 0 j rfl).1) (fun j => (sc 27 0 j rfl).1) (sc 3 0 2 rfl).1 (fun k j a b => (sm k 0 j (by simp [w_lnm]; omega)).1) (sm 12 0 90 rfl).1
  · exact r_p_cg (fun k n j q => sc k n j (by simp [rpC] at q; simp [w_ln]; omega)) (fun k n j q => (sm k n j (by simp [rpM] at q; simp [w_lnm]; omega)).1) R9
  · exact r_f_cg (fun k n j q => sc k n j (by simp [rpC] at q; simp [w_ln]; omega)) (fun k n j q => (sm k n j (by simp [rpM] at q; simp [w_lnm]; omega)).1) R10
theorem a_say (hf : f_ok f) (R : r_all f N B c m) (l x : Int) : ∃ v c' m', F11_say l x c = some (v, c') ∧ F12_say l x m = some (v, m') ∧ r_all f N B c' m' ∧ so w_ln c c' ∧ so w_lnm m m' := by
  unfold F11_say F11_say_20 F12_say F12_say_21
  rw [f_isL, m_isL2, Option.bind_some, Option.bind_some]
  dsimp only
  rw [f_within, m_in, Option.bind_some, Option.bind_some]
  dsimp only
  by_cases h : 0 ≤ l ∧ l ≤ 15
  · rw [if_pos (c := 0 ≤ l ∧ l ≤ 15) h, if_neg (show ¬ (1 : Int) = 0 by decide), if_neg (show ¬ (1 : Int) = 0 by decide)]
    by_cases h2 : -8000 ≤ x ∧ x ≤ 8000
    · rw [if_pos (c := -8000 ≤ x ∧ x ≤ 8000) h2, if_neg (show ¬ (1 : Int) = 0 by decide), if_neg (show ¬ (1 : Int) = 0 by decide), g_t (by omega), g_t (by omega), lt_d, g_t (by omega), lt_d, lt_d, g_t (by omega), lt_d]
      obtain ⟨R0, D, S, U⟩ := R
      have e : m.1 130 0 l = c.1 4 l 18 := (R0.2.1 l).2.2.2.2.2.2.2.2.2.2.2.1
      have sc : so w_ln c (sI c 4 l 18 x) := so_I (so_rfl c) rfl _ _
      have sm : so w_lnm m (sI m 130 0 l x) := so_I (so_rfl m) rfl _ _
      refine ⟨c.1 4 l 18, sI c 4 l 18 x, sI m 130 0 l x, rfl, by rw [← e], ⟨rel_ln hf R0 sc sm (fun l' => ?_), ?_, ?_, ?_⟩, sc, sm⟩
      · have q := R0.2.1 l'
        simp only [rI_I]
        by_cases z : l' = l
        · subst z; obtain ⟨a1, a2, a3, a4, a5, a6, a7, a8, a9, a10, a11, a12, a13⟩ := q; simp [a1, a2, a3, a4, a5, a6, a7, a8, a9, a11, a13]; exact fun x y => a10 x y
        · simpa [z] using q
      · exact r_d_cg2 (fun l' j q => (sc 4 l' j (by rcases q with rfl | rfl | rfl | rfl <;> rfl)).1) (fun l' j => (sc 30 l' j rfl).1) (fun j => (sm 117 0 j rfl).1) D
      · refine ⟨fun l' a b => ?_, fun e' k he a b => ?_⟩
        · rw [rI_I]
          split
          · exact h2
          · exact S.1 l' a b
        · rw [(sm 184 0 _ rfl).1, (sc 8 _ 4 rfl).1]; exact S.2 e' k he a b
      · rw [(sc 11 0 10 rfl).1]
        exact r_u_cg (so_I (so_rfl c) rfl _ _) (so_I (so_rfl m) rfl _ _) U
    · rw [if_neg (c := -8000 ≤ x ∧ x ≤ 8000) h2, if_pos (show (0 : Int) = 0 from rfl), if_pos (show (0 : Int) = 0 from rfl)]
      exact ⟨_, c, m, rfl, rfl, R, so_rfl c, so_rfl m⟩
  · rw [if_neg (c := 0 ≤ l ∧ l ≤ 15) h, if_pos (show (0 : Int) = 0 from rfl), if_pos (show (0 : Int) = 0 from rfl)]
    exact ⟨_, c, m, rfl, rfl, R, so_rfl c, so_rfl m⟩
end RI
