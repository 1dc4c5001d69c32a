/-! ===== plan ===== -/
section RT1
variable {f : Int → Int} {N : Int} {c m h' : JM} {B : Int} {e r cnt n x l k a z : Int}
theorem x_plan (hf : f_ok f) (R : r_x f N B c m) (he : e = 0 ∨ e = 1) (hcnt : c.1 1 e 4 = cnt) (h24 : 0 ≤ cnt ∧ cnt < 24) (hr : r = 24 * e + cnt) (hx : c.2.1 11 0 9 = x) (hn : m.1 12 0 4 = n) (n1 : 1 ≤ n) (hl : n ≤ l ∧ l ≤ 12) (hz : 0 ≤ z ∧ z ≤ 3) (ha : AC e l k a)
    (y2 : h'.2 = m.2) (y3 : ∀ k n' j, h'.1 k n' j = if k = 106 ∧ n' = 0 ∧ 12 * r + 0 ≤ j ∧ j < 12 * r + n then m.1 103 0 (j - 12 * r) else m.1 k n' j) : r_y f N B c m (c_pl c e r cnt x l k a z) (m_pl h' e r cnt n l k a z) := by
  have P := R.1.1.2.2.2.2.2.2.2.2.1
  have Z := R.2.2
  have X := R.2.1
  rw [hx, hn] at X
  obtain ⟨Q5, Q6, Q7, Q8⟩ := P e he
  have m5 : ∀ j, (m_pl h' e r cnt n l k a z).1 105 0 j = if j = e then cnt + 1 else m.1 105 0 j := fun j => by unfold m_pl; simp [rI_I, y3]
  have m6 : ∀ j, (m_pl h' e r cnt n l k a z).1 106 0 j = if 12 * r ≤ j ∧ j < 12 * r + n then m.1 103 0 (j - 12 * r) else m.1 106 0 j := fun j => by unfold m_pl; simp [rI_I, y3]
  have m7 : ∀ j, (m_pl h' e r cnt n l k a z).1 107 0 j = if j = r then n else m.1 107 0 j := fun j => by unfold m_pl; simp [rI_I, y3]
  have m8 : ∀ j, (m_pl h' e r cnt n l k a z).1 108 0 j = if j = r then l else m.1 108 0 j := fun j => by unfold m_pl; simp [rI_I, y3]
  have m9 : ∀ j, (m_pl h' e r cnt n l k a z).1 109 0 j = if j = r then k else m.1 109 0 j := fun j => by unfold m_pl; simp [rI_I, y3]
  have m10 : ∀ j, (m_pl h' e r cnt n l k a z).1 110 0 j = if j = r then a else m.1 110 0 j := fun j => by unfold m_pl; simp [rI_I, y3]
  have m11 : ∀ j, (m_pl h' e r cnt n l k a z).1 111 0 j = if j = r then z else m.1 111 0 j := fun j => by unfold m_pl; simp [rI_I, y3]
  have s0 : so w_plm m h' := fun k' n' j q => ⟨by
    rw [y3, if_neg (fun t => by rw [t.1] at q; simp [w_plm] at q)], by rw [y2], by rw [y2]⟩
  have sm : so w_plm m (m_pl h' e r cnt n l k a z) := so_I (so_I (so_I (so_I (so_I (so_I (so_I s0 (by simp [w_plm]) _ _) (by simp [w_plm]) _ _) (by simp [w_plm]) _ _) (by simp [w_plm]) _ _) (by simp [w_plm]) _ _) (by simp [w_plm]) _ _) (by simp [w_plm]) _ _
  have sc : so w_pl c (c_pl c e r cnt x l k a z) := cp_so
  have p24 : ∀ e', e' = 0 ∨ e' = 1 → 0 ≤ m.1 105 0 e' ∧ m.1 105 0 e' ≤ 24 := fun e' h => ⟨(P e' h).2.1, (P e' h).2.2.1⟩
  have c5 : m.1 105 0 e = cnt := by rw [Q5, hcnt]
  obtain ⟨o1, o2, o3, o4, o5⟩ := cp6 (c := c) (e := e) (r := r) (cnt := cnt) (x := x) (l := l) (k := k) (a := a) (z := z)
  refine x_pl hf R sc sm ?_ ?_ ?_ ?_
  · refine r_h_cg2 (fun k' n' j q q6 => sc k' n' j (by simp [rdC] at q; simp [w_pl]; omega)) (fun k' n' j q q5 => (sm k' n' j (by simp [rdM] at q; simp [w_plm]; omega)).1) ?_ R.1.1.2.2.1
    intro i li s1
    rw [cpI (Or.inl (by decide)) (Or.inl (by decide)) (Or.inl (by decide))] at s1
    have li' : lv c i := ⟨li.1, li.2.1, by have t := li.2.2; rw [cpI (Or.inl (by decide)) (Or.inl (by decide)) (Or.inl (by decide))] at t; exact t⟩
    obtain ⟨r0, t1, t2, t3, t4, t5, t6, t7, t8⟩ := (R.1.1.2.2.1.2.2.2.2.2.2.2.2.2.2.2.2.2.1) i li' s1
    have e0 := ((R.1.1.2.2.1.2.2.1) i li').2
    have b5 := (sm 135 0 (f i) (by simp [w_plm])).1
    have b0 := (sm 140 0 (f i) (by simp [w_plm])).1
    have b1 := (sm 141 0 (f i) (by simp [w_plm])).1
    have b2 := (sm 142 0 (f i) (by simp [w_plm])).1
    have pe := p24 _ e0
    have rne : r0 ≠ r := by
      by_cases q : m.1 135 0 (f i) = e
      · rw [q] at t3; omega
      · omega
    rw [b5, b0, b1, b2, m5]
    refine ⟨r0, ?_, t2, ?_, ?_, t5, ?_, t7, t8⟩
    · rw [cpR (Or.inl (by decide)), if_neg (fun q => absurd q.1 (by decide))]; exact t1
    · by_cases q : m.1 135 0 (f i) = e
      · rw [if_pos q]; rw [q] at t3 ⊢; omega
      · rw [if_neg q]; exact t3
    · rw [cpI (Or.inl (by decide)) (Or.inr rne) (Or.inl (by decide))]; exact t4
    · rw [cpI (Or.inl (by decide)) (Or.inr rne) (Or.inl (by decide))]; exact t6
  · intro e' he'
    obtain ⟨P5, P6, P7, P8⟩ := P e' he'
    rw [m5, cp1]
    refine ⟨by rw [P5], by split <;> omega, by split <;> omega, fun r' ra rb => ?_⟩
    rw [m7, m8, m9, m10, m11]
    by_cases q : r' = r
    · have ee : e' = e := by
        by_cases q2 : e' = e
        · exact q2
        · rw [if_neg q2] at rb; omega
      subst ee
      subst q
      rw [if_pos rfl, if_pos rfl, if_pos rfl, if_pos rfl, if_pos rfl, o1, o2, o3, o4, o5]
      refine ⟨?_, ?_, n1, hl.1, hl.2, rfl, rfl, rfl, rfl, hz.1, hz.2, ?_⟩
      · rw [cpR (Or.inl (by decide)), if_pos ⟨rfl, rfl, by omega⟩]
      · obtain ⟨K, k1, k2, k3, k4⟩ := X
        refine ⟨K, k1, k2, k3, fun j hj => ?_⟩
        show (m_pl h' e' r' cnt n l k a z).1 106 0 (12 * r' + (j : Int)) = _
        rw [m6, if_pos (by omega), ← k4 j hj]
        exact cgI _ _ _ (by omega)
      · unfold AC at ha; omega
    · have rb' : r' < 24 * e' + m.1 105 0 e' := by
        by_cases q2 : e' = e
        · rw [if_pos q2] at rb; rw [q2, c5]; rw [q2] at rb; omega
        · rw [if_neg q2] at rb; exact rb
      obtain ⟨t1, t2, t3, t4, t5, t6, t7, t8, t9, t10, t11, t12⟩ := P8 r' ra rb'
      rw [if_neg q, if_neg q, if_neg q, if_neg q, if_neg q, cpI (Or.inl (by decide)) (Or.inr q) (Or.inl (by decide)), cpI (Or.inl (by decide)) (Or.inr q) (Or.inl (by decide)), cpI (Or.inl (by decide)) (Or.inr q) (Or.inl (by decide)), cpI (Or.inl (by decide)) (Or.inr q) (Or.inl (by decide)), cpL (Or.inl (by decide)) (Or.inr q)]
      refine ⟨?_, ?_, t3, t4, t5, t6, t7, t8, t9, t10, t11, t12⟩
      · rw [cpR (Or.inl (by decide)), if_neg (fun y => q (by have y2 := y.2.1; have y3 := y.2.2; rw [y2] at y3; omega))]; exact t1
      · obtain ⟨K, k1, k2, k3, k4⟩ := t2
        have kl := k1.1
        refine ⟨K, k1, k2, k3, fun j hj => ?_⟩
        show (m_pl h' e r cnt n l k a z).1 106 0 (12 * r' + (j : Int)) = _
        rw [m6, if_neg (by omega)]
        exact k4 j hj
  · refine ⟨[], ⟨by simp, fun _ q => by cases q⟩, ?_, ?_, fun j hj => absurd hj (by simp)⟩
    · show (sL (sL (j_nw c 6 r 0) 6 r 0 x) 11 0 9 0).2.1 11 0 9 = _
      rw [rL_s]; rfl
    · unfold m_pl; rw [rI_o (Or.inl (by decide)), rI_s]; rfl
  · intro e' r' he' ra rb
    rw [cp1] at ra
    have qq : 24 * e' + r' ≠ r := by
      by_cases q2 : e' = e
      · rw [if_pos q2] at ra; rw [q2]; omega
      · rw [if_neg q2] at ra; have t1 := p24 e' he'; have t2 := (P e' he').1; omega
    rw [cpI (Or.inl (by decide)) (Or.inl (by decide)) (Or.inr qq)]
    refine Z e' r' he' ?_ rb
    by_cases q2 : e' = e
    · rw [if_pos q2] at ra; rw [q2, hcnt]; omega
    · rw [if_neg q2] at ra; exact ra
theorem a_plan (hf : f_ok f) (R : r_x f N B c m) (e l k a z : Int) : ∃ v c' m', F11_plan e l k a z c = some (v, c') ∧ F12_plan e l k a z m = some (v, m') ∧ r_y f N B c m c' m' := by
  unfold F11_plan F11_plan_53 F12_plan F12_plan_58
  obtain ⟨K, hK, e1, e2, e3⟩ := R.2.1
  have P := R.1.1.2.2.2.2.2.2.2.2.1
  have X := R.2.1
  have Z := R.2.2
  have kl := hK.1
  obtain ⟨x, hx⟩ : ∃ x, c.2.1 11 0 9 = x := ⟨_, rfl⟩
  obtain ⟨n, hn⟩ : ∃ n : Int, (K.length : Int) = n := ⟨_, rfl⟩
  rw [e1, f_countOf hK, Option.bind_some, f_exch, m_in, Option.bind_some, Option.bind_some, hn]
  dsimp only
  have e2' : m.1 12 0 4 = n := by rw [e2, hn]
  by_cases h1 : 0 ≤ e ∧ e ≤ 1
  · rw [if_pos (c := 0 ≤ e ∧ e ≤ 1) h1, if_neg (show ¬ (1 : Int) = 0 by decide), if_neg (show ¬ (1 : Int) = 0 by decide), e2']
    by_cases h2 : n = 0
    · rw [if_pos h2, if_pos h2]; exact ⟨_, c, m, rfl, rfl, r_y0 R⟩
    · rw [if_neg h2, if_neg h2, f_within, m_in, Option.bind_some, Option.bind_some]
      dsimp only
      by_cases h3 : n ≤ l ∧ l ≤ 12
      · rw [if_pos (c := n ≤ l ∧ l ≤ 12) h3, if_neg (show ¬ (1 : Int) = 0 by decide), if_neg (show ¬ (1 : Int) = 0 by decide), f_within, m_in, Option.bind_some, Option.bind_some]
        dsimp only
        have he : e = 0 ∨ e = 1 := by omega
        rw [f_isArg he, m_in, Option.bind_some, Option.bind_some]
        dsimp only
        by_cases h4 : 0 ≤ z ∧ z ≤ 3
        · rw [if_pos (c := 0 ≤ z ∧ z ≤ 3) h4, if_neg (show ¬ (1 : Int) = 0 by decide)]
          by_cases h5 : 0 ≤ k ∧ k ≤ 4
          · rw [if_pos (c := 0 ≤ k ∧ k ≤ 4) h5, if_neg (show ¬ (1 : Int) = 0 by decide), if_neg (show ¬ (1 : Int) = 0 by decide), m_arg he h5]
            unfold F12_plan_130
            by_cases h6 : AC e l k a
            · rw [if_pos (c := AC e l k a) h6, if_neg (show ¬ (1 : Int) = 0 by decide), if_neg (show ¬ (1 : Int) = 0 by decide), g_t (by omega)]
              obtain ⟨cnt, hcnt⟩ : ∃ cnt, c.1 1 e 4 = cnt := ⟨_, rfl⟩
              obtain ⟨Q5, Q6, Q7, Q8⟩ := P e he
              have c5 : m.1 105 0 e = cnt := by rw [Q5, hcnt]
              rw [c5] at Q6 Q7
              rw [hx, e2'] at X
              have T := p_rows (c := c) (m := m) (l1 := l) (l2 := k) (l3 := a) (l4 := z) he X e2' ⟨c5, hcnt, Q6, Q7⟩ (fun i i0 i1 => by
                obtain ⟨t1, t2, _⟩ := Q8 (24 * e + i) (by omega) (by omega)
                rw [show 24 * e + i - 24 * e = i by omega] at t1
                exact ⟨t1, t2⟩) cnt.toNat j_fu j_fu 0 (by omega) (by omega) (by unfold j_fu; omega) (by unfold j_fu; omega)
              rw [hx]
              unfold F1_hasPrefix
              rcases T with ⟨y1, y2⟩ | ⟨y1, y2⟩
              · rw [y1, y2, Option.bind_some]
                dsimp only
                rw [if_neg (show ¬ (1 : Int) = 0 by decide)]
                exact ⟨_, c, m, rfl, rfl, r_y0 R⟩
              · rw [y1, y2, Option.bind_some]
                unfold F12_plan_143b
                dsimp only
                have ge : 0 ≤ e ∧ e < 2 := by omega
                rw [if_pos (show (0 : Int) = 0 from rfl)]
                simp only [g_t ge]
                rw [hcnt, c5, if_pos (Int.le_refl cnt)]
                by_cases h7 : cnt < 24
                · have w3 : w32 (w32 (24 * e) + cnt) = 24 * e + cnt := by rw [w32_of (x := 24 * e) (by omega) (by omega), w32_of (by omega) (by omega)]
                  obtain ⟨h', z1, z2, z3⟩ := m_281 (l1 := e) (l2 := l) (l3 := k) (l4 := a) (l5 := z) (p := 24 * e + cnt) (n := n) (by omega) (by omega) n.toNat j_fu 0 m (by omega) (by omega) (by unfold j_fu; omega) e2'
                  have hg : c.1 1006 (24 * e + cnt) 0 ≠ 1 := Z e cnt he (by rw [hcnt]; exact Int.le_refl _) h7
                  rw [if_pos h7, f_new he hcnt ⟨Q6, h7⟩ hx hg, if_neg (show ¬ cnt = 24 by omega), w3, lt_d, z1, m_new2 he (by omega) (by rw [z3, if_neg (fun y => absurd y.1 (by decide))]; exact c5) ⟨Q6, h7⟩ (by rw [z3, if_neg (fun y => absurd y.1 (by decide))]; exact e2')]
                  exact ⟨_, _, _, rfl, rfl, x_plan hf R he hcnt ⟨Q6, h7⟩ rfl hx e2' (by omega) h3 h4 h6 z2 z3⟩
                · rw [if_neg h7, if_pos (show cnt = 24 by omega)]
                  exact ⟨_, c, m, rfl, rfl, r_y0 R⟩
            · rw [if_neg (c := AC e l k a) h6, if_pos (show (0 : Int) = 0 from rfl), if_pos (show (0 : Int) = 0 from rfl)]
              exact ⟨_, c, m, rfl, rfl, r_y0 R⟩
          · rw [if_neg (c := 0 ≤ k ∧ k ≤ 4) h5, if_pos (show (0 : Int) = 0 from rfl), if_neg (c := AC e l k a) (by unfold AC; omega), if_pos (show (0 : Int) = 0 from rfl)]
            exact ⟨_, c, m, rfl, rfl, r_y0 R⟩
        · rw [if_neg (c := 0 ≤ z ∧ z ≤ 3) h4, if_pos (show (0 : Int) = 0 from rfl)]
          by_cases h5 : 0 ≤ k ∧ k ≤ 4
          · rw [if_pos (c := 0 ≤ k ∧ k ≤ 4) h5, if_neg (show ¬ (1 : Int) = 0 by decide), if_pos (show (0 : Int) = 0 from rfl)]
            exact ⟨_, c, m, rfl, rfl, r_y0 R⟩
          · rw [if_neg (c := 0 ≤ k ∧ k ≤ 4) h5, if_pos (show (0 : Int) = 0 from rfl)]
            exact ⟨_, c, m, rfl, rfl, r_y0 R⟩
      · rw [if_neg (c := n ≤ l ∧ l ≤ 12) h3, if_pos (show (0 : Int) = 0 from rfl), if_pos (show (0 : Int) = 0 from rfl)]
        exact ⟨_, c, m, rfl, rfl, r_y0 R⟩
  · rw [if_neg (c := 0 ≤ e ∧ e ≤ 1) h1, if_pos (show (0 : Int) = 0 from rfl), if_pos (show (0 : Int) = 0 from rfl)]
    exact ⟨_, c, m, rfl, rfl, r_y0 R⟩
end RT1
