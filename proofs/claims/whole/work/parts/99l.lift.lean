/-! ===== a line flashes, or is lifted while it rings ===== -/
section SF
variable {f : Int → Int} {N z1 z2 X : Int} {sec : Option Int} {Y zd : Int} {c m c' m' : JM} {B B' : Int} {H : HT}
/-- an answer, with its end if there is one -/
theorem p_aif (hf : f_ok f) (hB : B + 20 < 2000000000) {id : Int} (hi : 0 ≤ id ∧ id < 72) (R : relN f N B H (c_talk c id) (m_talk m (f id))) :
    ∃ c' m', (F11_answer (some id) c).bind (fun q => (F11_endIf (some id) q.1 q.2).bind (fun h => some h)) = some c' ∧ F12_answered (f id) m = some m' ∧ relN f N (B + 5) H c' m' ∧ so w_C c c' ∧ so w_M m m' := by
  obtain ⟨r, c1, c', m', e1, e2, e3, e4, e5, e6⟩ := p_answer hf hB hi R
  refine ⟨c', m', ?_, e3, e4, e5, e6⟩
  rw [e1, Option.bind_some]
  unfold F11_endIf
  rcases e2 with ⟨rfl, rfl⟩ | ⟨rfl, e⟩
  · simp
  · dsimp only
    rw [if_neg (by decide), e, Option.bind_some, Option.bind_some]
theorem k4_talk {id : Int} (hs : c.1 0 id 9 = 1 ∨ c.1 0 id 9 = 2) (k9 : ∀ n, c'.1 0 n 9 = if n = id then 3 else c.1 0 n 9) (k5 : ∀ n, c'.2.2 0 n 5 = c.2.2 0 n 5) (k14 : ∀ n, c'.1 0 n 14 = c.1 0 n 14) : ∀ n, (c'.1 0 n 9 = 4 ↔ c.1 0 n 9 = 4) ∧ (c.1 0 n 9 = 4 → c'.2.2 0 n 5 = c.2.2 0 n 5 ∧ c'.1 0 n 14 = c.1 0 n 14) ∧ (c'.1 0 n 9 = -1 ↔ c.1 0 n 9 = -1) := fun n => by
  rw [k9, k5, k14]
  by_cases z : n = id
  · subst z
    rw [if_pos rfl]
    exact ⟨by omega, fun _ => ⟨rfl, rfl⟩, by omega⟩
  · rw [if_neg z]
    exact ⟨Iff.rfl, fun _ => ⟨rfl, rfl⟩, Iff.rfl⟩
theorem k3_talk {s : Int} (hs : m.1 133 0 s = 1 ∨ m.1 133 0 s = 2) (h7 : m.1 137 0 s < 200) (k3 : ∀ j, m'.1 133 0 j = if j = s then 3 else m.1 133 0 j) (k5 : ∀ j, m'.1 135 0 j = m.1 135 0 j) (k7 : ∀ j, m'.1 137 0 j = m.1 137 0 j) : ∀ s, 0 ≤ s → s < 80 → (m'.1 133 0 s = -1 ↔ m.1 133 0 s = -1) ∧ ∀ e r, e = 0 ∨ e = 1 → r = 0 ∨ r = 1 → ((m'.1 133 0 s = 3 ∧ m'.1 135 0 s = e ∧ m'.1 137 0 s = 200 + r) ↔ (m.1 133 0 s = 3 ∧ m.1 135 0 s = e ∧ m.1 137 0 s = 200 + r)) := fun x _ _ => by
  rw [k3, k5, k7]
  by_cases z : x = s
  · subst z
    rw [if_pos rfl]
    exact ⟨by omega, fun _ _ _ _ => by omega⟩
  · rw [if_neg z]
    exact ⟨Iff.rfl, fun _ _ _ _ => Iff.rfl⟩
theorem sb_l {id l : Int} (hv : lv c id) (R : r_h f N z1 z2 X sec Y zd c m) (hl : c.2.2 0 id 3 = some l) : m.1 137 0 (f id) = l ∧ m.1 137 0 (f id) < 200 := by
  have h := R.1 id hv.1 hv.2.1
  rcases R.2.2.2.2.1 id hv with ⟨_, a, _⟩ | ⟨a1, a2, a, _⟩ | ⟨_, _, a, _⟩ | ⟨_, _, a, _⟩ | ⟨_, _, a, _⟩
  · rw [hl] at a; cases a
  · rw [hl] at a; cases a
    have := (R.2.2.1 id hv).2
    exact ⟨rfl, by omega⟩
  · rw [hl] at a; cases a
  · rw [hl] at a; cases a
  · rw [hl] at a; cases a
theorem p_flash (hf : f_ok f) (hB : B + 30 < 2000000000) {l : Int} (hl : 0 ≤ l ∧ l < 16) (R : relN f N B H c m) :
    ∃ c' m', F11_flash (some l) c = some c' ∧ F12_flashes l m = some m' ∧ relN f N (B + 5) H c' m' ∧ so w_C c c' ∧ so w_M m m' := by
  have hlo := R.2.2.1.2.2.2.2.2.2.2.2.2.2.2.2.2.2.2.1 l hl.1 hl.2 (by omega)
  have hla := R.2.2.1.2.2.2.2.2.2.2.2.2.2.2.2.2.2.1 l hl.1 hl.2
  have hwo := R.2.2.1.2.2.2.2.2.2.2.2.2.2.2.2.2.2.2.2.2.2.1 l
  have hnow : m.1 12 0 2 = c.1 11 0 10 := R.1.2.2.2.2.2.2.2.1
  unfold F11_flash F12_flashes
  rw [Option.bind_some]
  simp only [g_t hl, lt_d]
  cases q12 : c.2.2 4 l 12 with
  | none =>
    rw [if_pos rfl, hlo, q12, if_pos (show rf f none = -1 from rfl)]
    exact ⟨c, m, rfl, rfl, rel_mono (by omega) R, so_rfl c, so_rfl m⟩
  | some id =>
    obtain ⟨_, _, hv, hs⟩ := hwo id q12
    have hfr := hf.2.2.1 id hv.1 (by have := hv.2.1; omega)
    have b_st := R.2.2.1.1 id hv.1 hv.2.1
    rw [if_neg (by simp), hlo, q12, show rf f (some id) = f id from rfl, if_neg (hf.2.1 id), g_t hfr, Option.bind_some]
    have e3 : (sI (sI m 120 0 l (m.1 119 0 l)) 119 0 l (f id)).1 133 0 (f id) = c.1 0 id 9 := by rw [rI_o (by omega), rI_o (by omega)]; exact b_st.1
    rw [e3, show (sR (sR c 4 l 12 (c.2.2 4 l 11)) 4 l 11 (some id)).1 0 id 9 = c.1 0 id 9 from rfl]
    have sc : so w_C c (sR (sR c 4 l 12 (c.2.2 4 l 11)) 4 l 11 (some id)) := so_R (so_R (so_rfl c) rfl _ _) rfl _ _
    have sm : so w_M m (sI (sI m 120 0 l (m.1 119 0 l)) 119 0 l (f id)) := so_I (so_I (so_rfl m) rfl _ _) rfl _ _
    by_cases s2 : c.1 0 id 9 = 2
    · rw [if_pos s2, if_pos s2]
      have hlB : c.2.2 0 id 3 = some l := by
        rcases hs with ⟨_, w⟩ | ⟨w, _⟩
        · omega
        · exact w
      have h7 := sb_l hv R.2.2.1 hlB
      have t := t_swapT (id := id) (l := l) (nw := c.1 11 0 10) hf hv s2 ⟨hl.1, hl.2, q12⟩ R.2.2.1
      have eM : m_talk (sI (sI m 120 0 l (m.1 119 0 l)) 119 0 l (f id)) (f id) = sI (sI (sI (sI (sI (sI m 120 0 l (m.1 119 0 l)) 119 0 l (f id)) 133 0 (f id) 3) 145 0 (f id) (c.1 11 0 10)) 138 0 (f id) (-1)) 146 0 (f id) (c.1 11 0 10) := by
        unfold m_talk
        rw [show (sI (sI m 120 0 l (m.1 119 0 l)) 119 0 l (f id)).1 12 0 2 = c.1 11 0 10 by rw [rI_o (by omega), rI_o (by omega)]; exact hnow]
      have RT : relN f N B H (c_talk (sR (sR c 4 l 12 (c.2.2 4 l 11)) 4 l 11 (some id)) id) (m_talk (sI (sI m 120 0 l (m.1 119 0 l)) 119 0 l (f id)) (f id)) := by
        rw [eM]
        unfold c_talk
        refine rel_hl hf R ?_ t (so_I (so_I (so_R (so_R (so_rfl c) rfl _ _) rfl _ _) rfl _ _) rfl _ _) (so_I (so_I (so_I (so_I (so_I (so_I (so_rfl m) rfl _ _) rfl _ _) rfl _ _) rfl _ _) rfl _ _) rfl _ _) (k4_talk (id := id) (Or.inr s2) (fun n => ?_) (fun n => ?_) (fun n => ?_)) (k3_talk (s := f id) (by omega) h7.2 (fun j => ?_) (fun j => ?_) (fun j => ?_))
        · exact r_l_cg (c := c) (m := m) (fun k n j q => by simp [rlC] at q; rw [rI_o (by omega), rI_o (by omega)]; rfl) (fun k n j q => by simp [rlM] at q; rw [rI_o (by omega), rI_o (by omega), rI_o (by omega), rI_o (by omega), rI_o (by omega), rI_o (by omega)]) R.2.1
        · rw [rI_o (by omega), rI_I]; simp [rR_I]
        · rw [rI_R, rI_R, rR_R, rR_R, if_neg (by omega), if_neg (by omega)]
        · rw [rI_o (by omega), rI_o (by omega)]; rfl
        · rw [rI_o (by omega), rI_o (by omega), rI_o (by omega), rI_I, rI_o (by omega), rI_o (by omega)]; simp
        · rw [rI_o (by omega), rI_o (by omega), rI_o (by omega), rI_o (by omega), rI_o (by omega), rI_o (by omega)]
        · rw [rI_o (by omega), rI_o (by omega), rI_o (by omega), rI_o (by omega), rI_o (by omega), rI_o (by omega)]
      obtain ⟨c', m', e1, e2, e3, e4, e5⟩ := p_aif hf (by omega) ⟨hv.1, hv.2.1⟩ RT
      exact ⟨c', m', e1, by rw [e2, Option.bind_some], e3, so_tr sc e4, so_tr sm e5⟩
    · rw [if_neg s2, if_neg s2]
      have s3 : c.1 0 id 9 = 3 := by
        rcases hs with ⟨_, w⟩ | ⟨_, w | w⟩
        · exact w
        · exact absurd w s2
        · exact w
      refine ⟨_, _, rfl, rfl, rel_mono (by omega) (rel_h hf R (t_swap hf hv s3 ⟨hl.1, hl.2, q12⟩ R.2.2.1) (so_R (so_R (so_rfl c) rfl _ _) rfl _ _) (so_I (so_I (so_rfl m) rfl _ _) rfl _ _) (fun n => ?_) (fun s _ _ => ?_)), sc, sm⟩
      · simp [rR_I, rR_R]
      · simp [rI_I]
/-- a line that rings is lifted -/
theorem p_liftR (hf : f_ok f) (hB : B + 30 < 2000000000) {l id : Int} (hl : 0 ≤ l ∧ l < 16) (q13 : c.2.2 4 l 13 = some id) (R : relN f N B H c m) :
    ∃ c' m', F11_lift (some l) (c_chg c l 1) = some c' ∧ F12_lifts l m = some m' ∧ relN f N (B + 5) H c' m' ∧ so w_C (c_chg c l 1) c' ∧ so w_M (m_chg m l 1) m' := by
  have hlr := R.2.2.1.2.2.2.2.2.2.2.2.2.2.2.2.2.2.2.2.1 l hl.1 hl.2
  have hwr := R.2.2.1.2.2.2.2.2.2.2.2.2.2.2.2.2.2.2.2.2.2.2.2.1 l id q13
  have hnow : m.1 12 0 2 = c.1 11 0 10 := R.1.2.2.2.2.2.2.2.1
  have hv := hwr.2.2.1
  have hfr := hf.2.2.1 id hv.1 (by have := hv.2.1; omega)
  have b_st := R.2.2.1.1 id hv.1 hv.2.1
  have h7 := sb_l hv R.2.2.1 hwr.2.2.2.1
  obtain ⟨cB, hcB⟩ : ∃ x, x = sR (sR (sI (c_chg c l 1) 4 l 7 0) 4 l 13 none) 4 l 11 (some id) := ⟨_, rfl⟩
  obtain ⟨mB, hmB⟩ : ∃ x, x = sI (sI (sI (m_chg m l 1) 124 0 l 0) 121 0 l (-1)) 119 0 l (f id) := ⟨_, rfl⟩
  have E1 : F11_lift (some l) (c_chg c l 1) = (F11_answer (some id) cB).bind (fun q => (F11_endIf (some id) q.1 q.2).bind (fun h => some h)) := by
    unfold F11_lift
    rw [Option.bind_some]
    simp only [lt_d]
    rw [show (sI (c_chg c l 1) 4 l 7 0).2.2 4 l 13 = some id from q13, if_neg (by simp), hcB]
  have E2 : F12_lifts l m = (F12_answered (f id) mB).bind (fun h => some h) := by
    unfold F12_lifts
    rw [g_t hl, lt_d, f_clears hl, Option.bind_some]
    simp only [g_t hl, lt_d]
    have e1 : (sI (m_chg m l 1) 124 0 l 0).1 121 0 l = f id := by rw [rI_o (by omega), m_chg_I, if_neg (by omega), if_neg (by omega), hlr, q13]; rfl
    rw [e1, if_neg (hf.2.1 id), hmB]
  have cI : ∀ k n j, cB.1 k n j = if k = 4 ∧ n = l ∧ (j = 4 ∨ j = 7 ∨ j = 8 ∨ j = 9 ∨ j = 10) then 0 else if k = 4 ∧ n = l ∧ j = 6 then 1 else c.1 k n j := fun k n j => by
    rw [hcB]
    show (sI (c_chg c l 1) 4 l 7 0).1 k n j = _
    rw [rI_I, c_chg_I]
    grind
  have mI : ∀ k n j, mB.1 k n j = if k = 119 ∧ n = 0 ∧ j = l then f id else if k = 121 ∧ n = 0 ∧ j = l then -1 else if n = 0 ∧ j = l ∧ (k = 114 ∨ k = 115 ∨ k = 116 ∨ k = 118 ∨ k = 124) then 0 else if k = 112 ∧ n = 0 ∧ j = l then 1 else m.1 k n j := fun k n j => by
    rw [hmB, rI_I, rI_I, rI_I, m_chg_I]
    grind (splits := 20)
  have t := t_lift (id := id) (l := l) (nw := c.1 11 0 10) hf hv ⟨hl.1, hl.2, q13⟩ R.2.2.1
  have cn : cB.1 11 0 10 = c.1 11 0 10 := by rw [cI, if_neg (by omega), if_neg (by omega)]
  have mn : mB.1 12 0 2 = c.1 11 0 10 := by rw [mI, if_neg (by omega), if_neg (by omega), if_neg (by omega), if_neg (by omega)]; exact hnow
  have ctI : ∀ k n j, (c_talk cB id).1 k n j = if k = 0 ∧ n = id ∧ j = 10 then c.1 11 0 10 else if k = 0 ∧ n = id ∧ j = 9 then 3 else cB.1 k n j := fun k n j => by
    unfold c_talk; rw [rI_I, rI_I, cn]
  have mtI : ∀ k n j, (m_talk mB (f id)).1 k n j = if k = 146 ∧ n = 0 ∧ j = f id then c.1 11 0 10 else if k = 138 ∧ n = 0 ∧ j = f id then -1 else if k = 145 ∧ n = 0 ∧ j = f id then c.1 11 0 10 else if k = 133 ∧ n = 0 ∧ j = f id then 3 else mB.1 k n j := fun k n j => by
    unfold m_talk; rw [rI_I, rI_I, rI_I, rI_I, mn]
  have RT : relN f N B H (c_talk cB id) (m_talk mB (f id)) := by
    have sc : so w_hl c (c_talk cB id) := by
      rw [hcB]; exact so_I (so_I (so_R (so_R (so_I (so_I (so_I (so_I (so_I (so_I (so_rfl c) rfl _ _) rfl _ _) rfl _ _) rfl _ _) rfl _ _) rfl _ _) rfl _ _) rfl _ _) rfl _ _) rfl _ _
    have sm : so w_hlm m (m_talk mB (f id)) := by
      rw [hmB]; exact so_I (so_I (so_I (so_I (so_I (so_I (so_I (so_I (so_I (so_I (so_I (so_I (so_rfl m) rfl _ _) rfl _ _) rfl _ _) rfl _ _) rfl _ _) rfl _ _) rfl _ _) rfl _ _) rfl _ _) rfl _ _) rfl _ _) rfl _ _
    refine rel_hl hf R (fun x => ?_) (r_h_cg (fun k n j q => ⟨?_, ?_, ?_⟩) (fun k n j q => ?_) t) sc sm (k4_talk (id := id) (by omega) (fun n => ?_) (fun n => ?_) (fun n => ?_)) (k3_talk (s := f id) (by omega) h7.2 (fun j => ?_) (fun j => ?_) (fun j => ?_))
    · have h := R.2.1 x
      obtain ⟨g1, g2, g3, g4, g5, g6, g7, g8, g9, g10, g11, g12, g13⟩ := h
      simp only [ctI, mtI, cI, mI]
      clear R t sc sm
      refine ⟨?_, ?_, ?_, ?_, ?_, ?_, ?_, ?_, ?_, ?_, ?_, ?_, ?_⟩
      all_goals grind
    · rw [ctI, cI, rI_I, rI_I]
      show _ = if k = 0 ∧ n = id ∧ j = 10 then _ else if k = 0 ∧ n = id ∧ j = 9 then _ else (sI c 4 l 6 1).1 k n j
      rw [rI_I, if_neg (show ¬ (k = 4 ∧ n = l ∧ (j = 4 ∨ j = 7 ∨ j = 8 ∨ j = 9 ∨ j = 10)) by simp [rdC] at q; omega)]
    · rw [hcB]; rfl
    · rw [hcB]; rfl
    · rw [mtI, mI]
      simp only [rI_I]
      simp [rdM] at q
      rw [if_neg (show ¬ (n = 0 ∧ j = l ∧ (k = 114 ∨ k = 115 ∨ k = 116 ∨ k = 118 ∨ k = 124)) by omega), if_neg (show ¬ (k = 112 ∧ n = 0 ∧ j = l) by omega)]
    · rw [ctI, cI, if_neg (by omega), if_neg (show ¬ ((0 : Nat) = 4 ∧ n = l ∧ ((9 : Int) = 4 ∨ (9 : Int) = 7 ∨ (9 : Int) = 8 ∨ (9 : Int) = 9 ∨ (9 : Int) = 10)) by omega), if_neg (show ¬ ((0 : Nat) = 4 ∧ n = l ∧ (9 : Int) = 6) by omega)]
      simp
    · rw [hcB]
      show (sR (sR (sI (c_chg c l 1) 4 l 7 0) 4 l 13 none) 4 l 11 (some id)).2.2 0 n 5 = _
      rw [rR_R, rR_R, if_neg (by omega), if_neg (by omega)]; rfl
    · rw [ctI, cI, if_neg (by omega), if_neg (by omega), if_neg (by omega), if_neg (by omega)]
    · simp [mtI, mI]
    · rw [mtI, mI, if_neg (by omega), if_neg (by omega), if_neg (by omega), if_neg (by omega), if_neg (by omega), if_neg (by omega), if_neg (by omega), if_neg (by omega)]
    · rw [mtI, mI, if_neg (by omega), if_neg (by omega), if_neg (by omega), if_neg (by omega), if_neg (by omega), if_neg (by omega), if_neg (by omega), if_neg (by omega)]
  obtain ⟨c', m', e1, e2, e3, e4, e5⟩ := p_aif hf (by omega) ⟨hv.1, hv.2.1⟩ RT
  refine ⟨c', m', by rw [E1, e1], by rw [E2, e2, Option.bind_some], e3, so_tr ?_ e4, so_tr ?_ e5⟩
  · rw [hcB]; exact so_R (so_R (so_I (so_rfl _) rfl _ _) rfl _ _) rfl _ _
  · rw [hmB]; exact so_I (so_I (so_I (so_rfl _) rfl _ _) rfl _ _) rfl _ _
end SF
