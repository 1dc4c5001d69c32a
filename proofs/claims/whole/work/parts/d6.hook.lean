/-! ===== hooks ===== -/
section RJ
variable {f : Int → Int} {N : Int} {c m : JM} {B : Int}
theorem a_hook (hf : f_ok f) (R : r_all f N B c m) (l x : Int) (hx : x = 0 ∨ x = 1) : ∃ v c' m', F11_hook l x c = some (v, c') ∧ F12_hook l x m = some (v, m') ∧ r_all f N B c' m' ∧ so w_ln c c' ∧ so w_lnm m m' := by
  unfold F11_hook F12_hook F12_hook_24
  rw [f_isL, m_isL2, Option.bind_some, Option.bind_some]
  dsimp only
  by_cases h : 0 ≤ l ∧ l ≤ 15
  · have g : 0 ≤ l ∧ l < 16 := by omega
    rw [if_pos (c := 0 ≤ l ∧ l ≤ 15) h, if_neg (show ¬ (1 : Int) = 0 by decide), if_neg (show ¬ (1 : Int) = 0 by decide), g_t g, lt_d, g_t g, g_t hx, lt_d, g_t g]
    simp only [g_t g, g_t hx, lt_d]
    obtain ⟨R0, D, S, U⟩ := R
    have e : m.1 113 0 l = c.1 4 l 5 := (R0.2.1 l).2.1
    have sc : so w_ln c (sI c 4 l 5 x) := so_I (so_rfl c) rfl _ _
    have sm : so w_lnm m (sI m 113 0 l x) := so_I (so_rfl m) rfl _ _
    have RR : r_all f N B (sI c 4 l 5 x) (sI m 113 0 l x) := by
      refine ⟨rel_ln hf R0 sc sm (fun l' => ?_), ?_, ?_, ?_⟩
      · have q := R0.2.1 l'
        simp only [rI_I]
        by_cases z : l' = l
        · subst z; obtain ⟨a1, a2, a3, a4, a5, a6, a7, a8, a9, a10, a11, a12, a13⟩ := q; simp [a1, a3, a4, a5, a6, a7, a8, a9, a11, a12, a13]; exact fun x y => a10 x y
        · simpa [z] using q
      · exact r_d_cg2 (fun l' j q => (sc 4 l' j (by rcases q with rfl | rfl | rfl | rfl <;> rfl)).1) (fun l' j => (sc 30 l' j rfl).1) (fun j => (sm 117 0 j rfl).1) D
      · exact r_s_cg (fun l' => by rw [rI_I, if_neg (fun z => absurd z.2.2 (by decide))]) (fun t => (sc 8 t 4 rfl).1) (fun j => (sm 184 0 j rfl).1) S
      · rw [(sc 11 0 10 rfl).1]
        exact r_u_cg (so_I (so_rfl c) rfl _ _) (so_I (so_rfl m) rfl _ _) U
    rw [e]
    by_cases q : c.1 4 l 5 = 0
    · rw [if_pos q, if_pos q]; exact ⟨_, _, _, rfl, rfl, RR, sc, sm⟩
    · rw [if_neg q, if_neg q]; exact ⟨_, _, _, rfl, rfl, RR, sc, sm⟩
  · rw [if_neg (c := 0 ≤ l ∧ l ≤ 15) h, if_pos (show (0 : Int) = 0 from rfl), if_pos (show (0 : Int) = 0 from rfl)]
    exact ⟨_, c, m, rfl, rfl, R, so_rfl c, so_rfl m⟩
end RJ
