/-! ===== spoils and losses are set ===== -/
section RQ1
variable {f : Int → Int} {N : Int} {c m c' m' : JM} {B : Int}
theorem f_come {n nw : Int} (hn : 0 ≤ nw ∧ nw ≤ 10000000) (e : c.1 11 0 10 = nw) : F11_isUnitToCome n c = some (if nw ≤ n ∧ n ≤ nw + 100000 then 1 else 0, c) := by
  unfold F11_isUnitToCome F11_isUnitToCome_24
  rw [e, w32_of (x := nw + 100000) (by omega) (by omega)]
  by_cases h1 : n < nw
  · rw [if_pos h1, if_neg (by omega)]
  · rw [if_neg h1]
    by_cases h2 : nw + 100000 < n
    · rw [if_pos h2, if_neg (by omega)]
    · rw [if_neg h2, if_pos (by omega)]
theorem u_sp {n : Int} (sc : so w_sp c c') (sm : so w_spm m m') (T : r_t (2 * n) c' m') (U : r_u N n c m) : r_u N n c' m' := by
  obtain ⟨_, W, K⟩ := U
  have k9 : ∀ u j, c'.1 9 u j = c.1 9 u j ∧ c'.2.1 9 u j = c.2.1 9 u j := fun u j => ⟨(sc 9 u j (by simp [w_sp])).1, (sc 9 u j (by simp [w_sp])).2.1⟩
  refine ⟨T, fun e s he a b => ?_, fun e s he a b d => ?_⟩
  · rcases W e s he a b with ⟨q1, q2⟩ | ⟨q1, q2⟩
    · exact Or.inl ⟨q1, by rw [(k9 _ 5).1]; exact q2⟩
    · exact Or.inr ⟨q1, fl_cg (fun j => k9 _ j) (fun j => ⟨(sm 173 0 j (by simp [w_spm])).1, (sm 174 0 j (by simp [w_spm])).1⟩) q2⟩
  · exact kp_cg (fun j => k9 _ j) (fun j _ => (sm 171 0 _ (by simp [w_spm])).1) (sm 172 0 _ (by simp [w_spm])).1 (K e s he a b d)
theorem a_spoil (hf : f_ok f) (R : r_x f N B c m) (e n k : Int) : ∃ v c' m', F11_spoil e n k c = some (v, c') ∧ F12_spoil e n k m = some (v, m') ∧ r_y f N B c m c' m' := by
  unfold F11_spoil F11_spoil_26 F12_spoil F12_spoil_44
  have K := R.1.1.1
  have em : m.1 12 0 2 = c.1 11 0 10 := K.2.2.2.2.2.2.2.1
  have hn : 0 ≤ c.1 11 0 10 ∧ c.1 11 0 10 ≤ 10000000 := ⟨K.2.2.2.2.2.2.2.2.1, K.2.2.2.2.2.2.2.2.2.1⟩
  rw [f_exch, m_in, Option.bind_some, Option.bind_some]
  dsimp only
  by_cases h1 : 0 ≤ e ∧ e ≤ 1
  · rw [if_pos (c := 0 ≤ e ∧ e ≤ 1) h1, if_neg (show ¬ (1 : Int) = 0 by decide), if_neg (show ¬ (1 : Int) = 0 by decide)]
    have he : e = 0 ∨ e = 1 := by omega
    rw [f_come hn rfl, em, w64_of (x := c.1 11 0 10 + 100000) (by omega) (by omega), m_in, Option.bind_some, Option.bind_some]
    dsimp only
    by_cases h2 : c.1 11 0 10 ≤ n ∧ n ≤ c.1 11 0 10 + 100000
    · rw [if_pos (c := c.1 11 0 10 ≤ n ∧ n ≤ c.1 11 0 10 + 100000) h2, if_neg (show ¬ (1 : Int) = 0 by decide), if_neg (show ¬ (1 : Int) = 0 by decide)]
      rw [f_within, m_in, Option.bind_some, Option.bind_some]
      dsimp only
      by_cases h3 : 0 ≤ k ∧ k ≤ 255
      · rw [if_pos (c := 0 ≤ k ∧ k ≤ 255) h3, if_neg (show ¬ (1 : Int) = 0 by decide), if_neg (show ¬ (1 : Int) = 0 by decide)]
        obtain ⟨nw, enw⟩ : ∃ nw, c.1 11 0 10 = nw := ⟨_, rfl⟩
        have U := R.1.2.2.2
        rw [enw] at U hn h2
        obtain ⟨⟨Rl, ⟨s1, s2, s3⟩, T0, G0⟩, ⟨Ro, o1, o2, o3⟩⟩ := U.1
        have hx : n ≤ 20000000 := by omega
        have hn0 : 0 ≤ n := by omega
        have em' : m.1 12 0 2 = nw := by rw [em, enw]
        obtain ⟨h', y1, y2, y3⟩ := m_53 (nw := nw) (e := e) (n := n) (k := k) s2 Rl j_fu [] 0 m (Nat.le_refl _) (Nat.zero_add _) (by unfold j_fu; omega) s1 em' (fun j hj => absurd hj (Nat.not_lt_zero _)) (fun j hj => by rw [Nat.zero_add]; exact s3 j hj)
        rw [List.nil_append] at y1 y2
        rw [show ((([] : List (Int × Int)).length : Nat) : Int) = 0 from rfl, show ((0 : Nat) : Int) = 0 from rfl] at y1
        obtain ⟨C, hC⟩ : ∃ C, fc (2 * nw) Rl = C := ⟨_, rfl⟩
        have Cge : ∀ p ∈ C, 2 * nw ≤ p.1 := by rw [← hC]; exact fc_ge
        have CG : rng C := by rw [← hC]; exact fc_r G0
        have CC : fc (2 * nw) C = C := fc_all Cge
        rw [hC] at y1 y2 T0
        obtain ⟨len, hlen⟩ : ∃ len : Int, (C.length : Int) = len := ⟨_, rfl⟩
        have k75 : h'.1 12 0 75 = (Rl.length : Int) := by rw [(y3 12 0 75 rfl).1]; exact s1
        have sm1 : so w_spm m (sI h' 12 0 75 len) := so_I (so_mono (fun k j h => by simp [w_spm] at h; simp [w_53]; omega) y3) (by simp [w_spm]) _ _
        have hC3 := T0.2.1
        rw [hlen] at y1
        have tlo : ∀ m2, so w_spm m m2 → (∀ j, m2.1 12 0 79 = m.1 12 0 79 ∧ m2.1 180 0 j = m.1 180 0 j ∧ m2.1 181 0 j = m.1 181 0 j) → tl m2 Ro := fun m2 _ q => by
          obtain ⟨a, b, d⟩ := o1
          refine ⟨by rw [(q 0).1]; exact a, b, fun j hj => ?_⟩
          rw [(q j).2.1, (q j).2.2]
          exact d j hj
        have other : ∀ j, h'.1 12 0 79 = m.1 12 0 79 ∧ h'.1 180 0 j = m.1 180 0 j ∧ h'.1 181 0 j = m.1 181 0 j := fun j => ⟨(y3 12 0 79 rfl).1, (y3 180 0 j rfl).1, (y3 181 0 j rfl).1⟩
        rw [y1]
        unfold F12_spoil_53b
        rw [k75, if_pos (Int.le_refl _), lt_d, rI_s]
        rcases f_add (t := 0) (k := k) he ⟨hn0, hx⟩ T0 with ⟨z, fa⟩ | ⟨z, c1, fa, T1, sc, ofr⟩
        · rw [fa, Option.bind_some, if_pos (show len = 300 by omega)]
          refine ⟨_, c, _, rfl, rfl, x_sp hf R (so_rfl c) sm1 ?_⟩
          rw [enw]
          refine u_sp (so_rfl c) sm1 ⟨⟨C, (show ts (sI h' 12 0 75 len) C from ⟨by rw [rI_s]; exact hlen.symm, hC3, fun j hj => by rw [rI_o (Or.inl (by decide)), rI_o (Or.inl (by decide)), rI_o (Or.inl (by decide))]; have q := y2 j hj; rw [Nat.zero_add] at q; exact q⟩), by rw [CC]; exact T0, CG⟩, ⟨Ro, (tlo _ sm1 (fun j => ⟨by rw [rI_o (Or.inr (Or.inr (by decide)))]; exact (other j).1, by rw [rI_o (Or.inl (by decide))]; exact (other j).2.1, by rw [rI_o (Or.inl (by decide))]; exact (other j).2.2⟩)), o2, o3⟩⟩ U
        · have gl : 0 ≤ len ∧ len < 300 := by omega
          have w1 : w32 (len + 1) = len + 1 := w32_of (by omega) (by omega)
          have a1 : (sI (sI h' 12 0 75 len) 176 0 len e).1 12 0 75 = len := by rw [rI_o (Or.inl (by decide)), rI_s]
          have a2 : (sI (sI (sI h' 12 0 75 len) 176 0 len e) 177 0 len n).1 12 0 75 = len := by rw [rI_o (Or.inl (by decide)), a1]
          rw [if_neg (show ¬ len = 300 by omega), g_t gl, lt_d, a1, g_t gl, lt_d, a2, w1, lt_d, g_t gl, lt_d]
          have sm : so w_spm m (sI (sI (sI (sI (sI h' 12 0 75 len) 176 0 len e) 177 0 len n) 12 0 75 (len + 1)) 178 0 len k) := so_I (so_I (so_I (so_I sm1 (by simp [w_spm]) _ _) (by simp [w_spm]) _ _) (by simp [w_spm]) _ _) (by simp [w_spm]) _ _
          have fin : (sI (sI (sI (sI (sI h' 12 0 75 len) 176 0 len e) 177 0 len n) 12 0 75 (len + 1)) 178 0 len k).1 12 0 75 = len + 1 := by rw [rI_o (Or.inl (by decide)), rI_s]
          refine ⟨len + 1, c1, _, ?_, by rw [fin], x_sp hf R sc sm ?_⟩
          · rw [fa, Option.bind_some, hlen]
          · rw [enw]
            have cx : fc (2 * nw) (C ++ [(2 * n + e, k)]) = C ++ [(2 * n + e, k)] := fc_all (fun p hp => by
              rcases List.mem_append.1 hp with q | q
              · exact Cge p q
              · rw [List.mem_singleton.1 q]; show 2 * nw ≤ 2 * n + e; omega)
            have rx : rng (C ++ [(2 * n + e, k)]) := fun p hp => by
              rcases List.mem_append.1 hp with q | q
              · exact CG p q
              · rw [List.mem_singleton.1 q]; exact ⟨show 0 ≤ 2 * n + e by omega, show 2 * n + e ≤ 30000000 by omega, show 0 ≤ k by omega, show k ≤ 255 by omega⟩
            have tsn : ts (sI (sI (sI (sI (sI h' 12 0 75 len) 176 0 len e) 177 0 len n) 12 0 75 (len + 1)) 178 0 len k) (C ++ [(2 * n + e, k)]) := by
              refine ⟨by rw [fin, List.length_append, ← hlen]; rfl, T1.2.1, fun j hj => ?_⟩
              rw [List.length_append] at hj
              have hj2 : j < C.length + 1 := hj
              have r6 : (sI (sI (sI (sI (sI h' 12 0 75 len) 176 0 len e) 177 0 len n) 12 0 75 (len + 1)) 178 0 len k).1 176 0 (j : Int) = (sI h' 176 0 len e).1 176 0 (j : Int) := by simp [rI_I]
              have r7 : (sI (sI (sI (sI (sI h' 12 0 75 len) 176 0 len e) 177 0 len n) 12 0 75 (len + 1)) 178 0 len k).1 177 0 (j : Int) = (sI h' 177 0 len n).1 177 0 (j : Int) := by simp [rI_I]
              have r8 : (sI (sI (sI (sI (sI h' 12 0 75 len) 176 0 len e) 177 0 len n) 12 0 75 (len + 1)) 178 0 len k).1 178 0 (j : Int) = (sI h' 178 0 len k).1 178 0 (j : Int) := by simp [rI_I]
              rw [r6, r7, r8]
              by_cases y : j = C.length
              · have yl : (j : Int) = len := by omega
                rw [y, gd_r, ← y, yl]
                rw [rI_s, rI_s, rI_s]; exact ⟨he, rfl, rfl⟩
              · have yl : (j : Int) ≠ len := by omega
                rw [gd_l (by omega), rI_o (Or.inr (Or.inr yl)), rI_o (Or.inr (Or.inr yl)), rI_o (Or.inr (Or.inr yl))]
                have q := y2 j (by omega)
                rw [Nat.zero_add] at q
                exact q
            refine u_sp sc sm ⟨⟨C ++ [(2 * n + e, k)], tsn, by rw [cx]; exact T1, rx⟩, ⟨Ro, (tlo _ sm (fun j => ⟨by rw [rI_o (Or.inl (by decide))]; rw [rI_o (Or.inr (Or.inr (by decide)))]; rw [rI_o (Or.inl (by decide))]; rw [rI_o (Or.inl (by decide))]; rw [rI_o (Or.inr (Or.inr (by decide)))]; exact (other j).1, by rw [rI_o (Or.inl (by decide))]; rw [rI_o (Or.inl (by decide))]; rw [rI_o (Or.inl (by decide))]; rw [rI_o (Or.inl (by decide))]; rw [rI_o (Or.inl (by decide))]; exact (other j).2.1, by rw [rI_o (Or.inl (by decide))]; rw [rI_o (Or.inl (by decide))]; rw [rI_o (Or.inl (by decide))]; rw [rI_o (Or.inl (by decide))]; rw [rI_o (Or.inl (by decide))]; exact (other j).2.2⟩)), tc_cg (fun k' j _ => ofr k' 1 j (by decide)) o2, o3⟩⟩ U
      · rw [if_neg (c := 0 ≤ k ∧ k ≤ 255) h3, if_pos (show (0 : Int) = 0 from rfl), if_pos (show (0 : Int) = 0 from rfl)]
        exact ⟨_, c, m, rfl, rfl, r_y0 R⟩
    · rw [if_neg (c := c.1 11 0 10 ≤ n ∧ n ≤ c.1 11 0 10 + 100000) h2, if_pos (show (0 : Int) = 0 from rfl), if_pos (show (0 : Int) = 0 from rfl)]
      exact ⟨_, c, m, rfl, rfl, r_y0 R⟩
  · rw [if_neg (c := 0 ≤ e ∧ e ≤ 1) h1, if_pos (show (0 : Int) = 0 from rfl), if_pos (show (0 : Int) = 0 from rfl)]
    exact ⟨_, c, m, rfl, rfl, r_y0 R⟩
theorem a_lose (hf : f_ok f) (R : r_x f N B c m) (e n : Int) : ∃ v c' m', F11_lose e n c = some (v, c') ∧ F12_lose e n m = some (v, m') ∧ r_y f N B c m c' m' := by
  unfold F11_lose F11_lose_15 F12_lose F12_lose_32
  have K := R.1.1.1
  have em : m.1 12 0 2 = c.1 11 0 10 := K.2.2.2.2.2.2.2.1
  have hn : 0 ≤ c.1 11 0 10 ∧ c.1 11 0 10 ≤ 10000000 := ⟨K.2.2.2.2.2.2.2.2.1, K.2.2.2.2.2.2.2.2.2.1⟩
  rw [f_exch, m_in, Option.bind_some, Option.bind_some]
  dsimp only
  by_cases h1 : 0 ≤ e ∧ e ≤ 1
  · rw [if_pos (c := 0 ≤ e ∧ e ≤ 1) h1, if_neg (show ¬ (1 : Int) = 0 by decide), if_neg (show ¬ (1 : Int) = 0 by decide)]
    have he : e = 0 ∨ e = 1 := by omega
    rw [f_come hn rfl, em, w64_of (x := c.1 11 0 10 + 100000) (by omega) (by omega), m_in, Option.bind_some, Option.bind_some]
    dsimp only
    by_cases h2 : c.1 11 0 10 ≤ n ∧ n ≤ c.1 11 0 10 + 100000
    · rw [if_pos (c := c.1 11 0 10 ≤ n ∧ n ≤ c.1 11 0 10 + 100000) h2, if_neg (show ¬ (1 : Int) = 0 by decide), if_neg (show ¬ (1 : Int) = 0 by decide)]
      obtain ⟨nw, enw⟩ : ∃ nw, c.1 11 0 10 = nw := ⟨_, rfl⟩
      have U := R.1.2.2.2
      rw [enw] at U hn h2
      obtain ⟨⟨Rl, ⟨s1, s2, s3⟩, T0, G0⟩, ⟨Ro, o1, o2, o3⟩⟩ := (show _ ∧ _ from ⟨U.1.2, U.1.1⟩)
      have hx : n ≤ 20000000 := by omega
      have hn0 : 0 ≤ n := by omega
      have em' : m.1 12 0 2 = nw := by rw [em, enw]
      obtain ⟨h', y1, y2, y3⟩ := m_40 (nw := nw) (e := e) (n := n) s2 Rl j_fu [] 0 m (Nat.le_refl _) (Nat.zero_add _) (by unfold j_fu; omega) s1 em' (fun j hj => absurd hj (Nat.not_lt_zero _)) (fun j hj => by rw [Nat.zero_add]; exact s3 j hj)
      rw [List.nil_append] at y1 y2
      rw [show ((([] : List (Int × Int)).length : Nat) : Int) = 0 from rfl, show ((0 : Nat) : Int) = 0 from rfl] at y1
      obtain ⟨C, hC⟩ : ∃ C, fc (2 * nw) Rl = C := ⟨_, rfl⟩
      have Cge : ∀ p ∈ C, 2 * nw ≤ p.1 := by rw [← hC]; exact fc_ge
      have CG : rng C := by rw [← hC]; exact fc_r G0
      have CC : fc (2 * nw) C = C := fc_all Cge
      rw [hC] at y1 y2 T0
      obtain ⟨len, hlen⟩ : ∃ len : Int, (C.length : Int) = len := ⟨_, rfl⟩
      have k75 : h'.1 12 0 79 = (Rl.length : Int) := by rw [(y3 12 0 79 rfl).1]; exact s1
      have sm1 : so w_spm m (sI h' 12 0 79 len) := so_I (so_mono (fun k j h => by simp [w_spm] at h; simp [w_40]; omega) y3) (by simp [w_spm]) _ _
      have hC3 := T0.2.1
      rw [hlen] at y1
      have tlo : ∀ m2, so w_spm m m2 → (∀ j, m2.1 12 0 75 = m.1 12 0 75 ∧ m2.1 176 0 j = m.1 176 0 j ∧ m2.1 177 0 j = m.1 177 0 j ∧ m2.1 178 0 j = m.1 178 0 j) → ts m2 Ro := fun m2 _ q => by
        obtain ⟨a, b, d⟩ := o1
        refine ⟨by rw [(q 0).1]; exact a, b, fun j hj => ?_⟩
        rw [(q j).2.1, (q j).2.2.1, (q j).2.2.2]
        exact d j hj
      have other : ∀ j, h'.1 12 0 75 = m.1 12 0 75 ∧ h'.1 176 0 j = m.1 176 0 j ∧ h'.1 177 0 j = m.1 177 0 j ∧ h'.1 178 0 j = m.1 178 0 j := fun j => ⟨(y3 12 0 75 rfl).1, (y3 176 0 j rfl).1, (y3 177 0 j rfl).1, (y3 178 0 j rfl).1⟩
      rw [y1]
      unfold F12_lose_40b
      rw [k75, if_pos (Int.le_refl _), lt_d, rI_s]
      rcases f_add (t := 1) (k := 0) he ⟨hn0, hx⟩ T0 with ⟨z, fa⟩ | ⟨z, c1, fa, T1, sc, ofr⟩
      · rw [fa, Option.bind_some, if_pos (show len = 300 by omega)]
        refine ⟨_, c, _, rfl, rfl, x_sp hf R (so_rfl c) sm1 ?_⟩
        rw [enw]
        refine u_sp (so_rfl c) sm1 ⟨⟨Ro, (tlo _ sm1 (fun j => ⟨by rw [rI_o (Or.inr (Or.inr (by decide)))]; exact (other j).1, by rw [rI_o (Or.inl (by decide))]; exact (other j).2.1, by rw [rI_o (Or.inl (by decide))]; exact (other j).2.2.1, by rw [rI_o (Or.inl (by decide))]; exact (other j).2.2.2⟩)), o2, o3⟩, ⟨C, (show tl (sI h' 12 0 79 len) C from ⟨by rw [rI_s]; exact hlen.symm, hC3, fun j hj => by rw [rI_o (Or.inl (by decide)), rI_o (Or.inl (by decide))]; have q := y2 j hj; rw [Nat.zero_add] at q; exact q⟩), by rw [CC]; exact T0, CG⟩⟩ U
      · have gl : 0 ≤ len ∧ len < 300 := by omega
        have w1 : w32 (len + 1) = len + 1 := w32_of (by omega) (by omega)
        have a1 : (sI (sI h' 12 0 79 len) 180 0 len e).1 12 0 79 = len := by rw [rI_o (Or.inl (by decide)), rI_s]
        rw [if_neg (show ¬ len = 300 by omega), g_t gl, lt_d, a1, w1, lt_d, g_t gl, lt_d]
        have sm : so w_spm m (sI (sI (sI (sI h' 12 0 79 len) 180 0 len e) 12 0 79 (len + 1)) 181 0 len n) := so_I (so_I (so_I sm1 (by simp [w_spm]) _ _) (by simp [w_spm]) _ _) (by simp [w_spm]) _ _
        have fin : (sI (sI (sI (sI h' 12 0 79 len) 180 0 len e) 12 0 79 (len + 1)) 181 0 len n).1 12 0 79 = len + 1 := by rw [rI_o (Or.inl (by decide)), rI_s]
        refine ⟨len + 1, c1, _, ?_, by rw [fin], x_sp hf R sc sm ?_⟩
        · rw [fa, Option.bind_some, hlen]
        · rw [enw]
          have cx : fc (2 * nw) (C ++ [(2 * n + e, 0)]) = C ++ [(2 * n + e, 0)] := fc_all (fun p hp => by
            rcases List.mem_append.1 hp with q | q
            · exact Cge p q
            · rw [List.mem_singleton.1 q]; show 2 * nw ≤ 2 * n + e; omega)
          have rx : rng (C ++ [(2 * n + e, 0)]) := fun p hp => by
            rcases List.mem_append.1 hp with q | q
            · exact CG p q
            · rw [List.mem_singleton.1 q]; exact ⟨show 0 ≤ 2 * n + e by omega, show 2 * n + e ≤ 30000000 by omega, show (0 : Int) ≤ 0 by omega, show (0 : Int) ≤ 255 by omega⟩
          have tsn : tl (sI (sI (sI (sI h' 12 0 79 len) 180 0 len e) 12 0 79 (len + 1)) 181 0 len n) (C ++ [(2 * n + e, 0)]) := by
            refine ⟨by rw [fin, List.length_append, ← hlen]; rfl, T1.2.1, fun j hj => ?_⟩
            rw [List.length_append] at hj
            have hj2 : j < C.length + 1 := hj
            have r6 : (sI (sI (sI (sI h' 12 0 79 len) 180 0 len e) 12 0 79 (len + 1)) 181 0 len n).1 180 0 (j : Int) = (sI h' 180 0 len e).1 180 0 (j : Int) := by simp [rI_I]
            have r7 : (sI (sI (sI (sI h' 12 0 79 len) 180 0 len e) 12 0 79 (len + 1)) 181 0 len n).1 181 0 (j : Int) = (sI h' 181 0 len n).1 181 0 (j : Int) := by simp [rI_I]
            rw [r6, r7]
            by_cases y : j = C.length
            · have yl : (j : Int) = len := by omega
              rw [y, gd_r, ← y, yl]
              rw [rI_s, rI_s]; exact ⟨he, rfl, rfl⟩
            · have yl : (j : Int) ≠ len := by omega
              rw [gd_l (by omega), rI_o (Or.inr (Or.inr yl)), rI_o (Or.inr (Or.inr yl))]
              have q := y2 j (by omega)
              rw [Nat.zero_add] at q
              exact q
          refine u_sp sc sm ⟨⟨Ro, (tlo _ sm (fun j => ⟨by rw [rI_o (Or.inl (by decide))]; rw [rI_o (Or.inr (Or.inr (by decide)))]; rw [rI_o (Or.inl (by decide))]; rw [rI_o (Or.inr (Or.inr (by decide)))]; exact (other j).1, by rw [rI_o (Or.inl (by decide))]; rw [rI_o (Or.inl (by decide))]; rw [rI_o (Or.inl (by decide))]; rw [rI_o (Or.inl (by decide))]; exact (other j).2.1, by rw [rI_o (Or.inl (by decide))]; rw [rI_o (Or.inl (by decide))]; rw [rI_o (Or.inl (by decide))]; rw [rI_o (Or.inl (by decide))]; exact (other j).2.2.1, by rw [rI_o (Or.inl (by decide))]; rw [rI_o (Or.inl (by decide))]; rw [rI_o (Or.inl (by decide))]; rw [rI_o (Or.inl (by decide))]; exact (other j).2.2.2⟩)), tc_cg (fun k' j _ => ofr k' 0 j (by decide)) o2, o3⟩, ⟨C ++ [(2 * n + e, 0)], tsn, by rw [cx]; exact T1, rx⟩⟩ U
    · rw [if_neg (c := c.1 11 0 10 ≤ n ∧ n ≤ c.1 11 0 10 + 100000) h2, if_pos (show (0 : Int) = 0 from rfl), if_pos (show (0 : Int) = 0 from rfl)]
      exact ⟨_, c, m, rfl, rfl, r_y0 R⟩
  · rw [if_neg (c := 0 ≤ e ∧ e ≤ 1) h1, if_pos (show (0 : Int) = 0 from rfl), if_pos (show (0 : Int) = 0 from rfl)]
    exact ⟨_, c, m, rfl, rfl, r_y0 R⟩
end RQ1
