/-! ===== a unit is sent, both ===== -/
theorem w_m1 : ∀ k (j : Int), 158 ≤ k → k ≤ 167 → w_sb k j = false := by intro k j a b; simp [w_sb]; omega
theorem w_m2 : ∀ k (j : Int), 158 ≤ k → k ≤ 167 → w_by k j = false := by intro k j a b; simp [w_by]; omega
theorem w_m3 : ∀ k (j : Int), w_om k j = false → w_by k j = false := by intro k j q; simp [w_om] at q; simp [w_by]; omega
theorem w_m4 : ∀ k (j : Int), w_om k j = false → w_sb k j = false := by intro k j q; simp [w_om] at q; simp [w_sb]; omega
theorem w_m5 : ∀ k (j : Int), w_o k j = false → k ≠ 7 ∧ k ≠ 34 ∧ k ≠ 35 := by intro k j q; simp [w_o] at q; omega
theorem w_m6 : ∀ k (j : Int), w_om k j = false → k ≠ 173 ∧ k ≠ 174 := by intro k j q; simp [w_om] at q; omega
theorem nm_o {u j : Int} {l : Nat} (hl : l ≤ 220) (hj : j < 320 * u ∨ 320 * u + 320 ≤ j) : ¬ (320 * u ≤ j ∧ j < 320 * u + l) := by omega
theorem nm_i {u : Int} {j l : Nat} (h : j < l) : 320 * u ≤ 320 * u + (j : Int) ∧ 320 * u + (j : Int) < 320 * u + l := by omega
theorem nm_s {u : Int} {j : Nat} : 320 * u + (j : Int) - 320 * u = (j : Int) := by omega
theorem nm_k {k a : Nat} (h1 : 158 ≤ k) (h2 : k ≤ 167) (ha : 167 < a) : k ≠ a := by omega
theorem nm_q1 {k : Nat} {n' j v : Int} (q : (k ≠ 7 ∧ k ≠ 34 ∧ k ≠ 35 ∧ k ≠ 9) ∨ (k = 9 ∧ n' ≠ v) ∨ ((k = 7 ∨ k = 34 ∨ k = 35) ∧ n' ≠ 1)) : (k ≠ 9 ∨ n' ≠ v ∨ j ≠ 5) ∧ ((k ≠ 7 ∧ k ≠ 34 ∧ k ≠ 35) ∨ n' ≠ 1) := by omega
theorem f_snd1 {k2 : Int → JM → Option JM} {e n u v : Int} {c c1 c2 : JM} (he : e = 0 ∨ e = 1) (hnw : c.1 11 0 10 = n) (n0 : 0 ≤ n) (n1 : n ≤ 10000000) (hu : u = 64 * e + n % 64) (hv : v = 128 + 2 * e + n % 2) (a1 : F5_fill e (some u) c = some c1) (c1now : c1.1 11 0 10 = n) (y1 : F9_copyOf v (some u) c1 = some c2) :
    F11_sendUnits_2b k2 e c = (F7_concern 0 e (c2.1 11 0 10) c2).bind (fun q9 => if q9.1 = 0 then F11_sendUnits_131 k2 e (some v) q9.2 else (F10_write (some u) q9.2).bind (fun h10 => (F7_turn 0 e (h10.1 11 0 10) (some 0) h10).bind (fun h11 => (F7_forget 0 e (h11.1 11 0 10) h11).bind (fun h12 => (F10_read (some v) (h12.1 11 0 0) h12).bind (fun q13 => if q13.1 = 0 then F11_sendUnits_128 k2 e (some v) (some v) 1 q13.2 else F11_sendUnits_128 k2 e (some v) (some v) 0 q13.2))))) := by
  have jr : j_rem n 64 = n % 64 := i_rem n0 (by omega) (by decide) (by decide)
  have ja : j_and n 1 = n % 2 := by
    rw [show (1 : Int) = ((2 ^ 1 - 1 : Nat) : Int) from rfl, i_and n0 (by omega) 1 rfl]; rfl
  have g1 : (0 : Int) ≤ e ∧ e < 2 := by omega
  have g2 : (0 : Int) ≤ n % 64 ∧ n % 64 < 64 := by omega
  have g3 : (0 : Int) ≤ n % 2 ∧ n % 2 < 2 := by omega
  have g0 : ¬ (2 : Int) ≤ e := by omega
  unfold F11_sendUnits_2b
  rw [if_neg g0, g_t g1, hnw, jr, g_t g2, ← hu, a1, Option.bind_some, c1now, ja, g_t g3, ← hv, y1, Option.bind_some]
theorem f_snd2 (k2 : Int → JM → Option JM) (e v s : Int) (h : JM) : F11_sendUnits_128 k2 e (some v) (some v) s h = lt_ (sI h 9 v 5 s) (fun h => F11_sendUnits_131 k2 e (some v) h) := by
  unfold F11_sendUnits_128
  rw [Option.bind_some]
section SR
variable {f : Int → Int} {N z1 z2 X : Int} {sec : Option Int} {Y zd : Int} {c m c' m' : JM} {B B' : Int} {H : HT}
set_option maxHeartbeats 40000000 in
theorem p_send (hf : f_ok f) (hB : B < 1000000000) {e n : Int} (he : e = 0 ∨ e = 1) (hnw : c.1 11 0 10 = n) (R : relN f N B H c m) (T : r_t (2 * n + e) c m) :
    ∃ c' m', (∀ k2, F11_sendUnits_2b k2 e c = k2 (e + 1) c') ∧ F12_sends e m = some m' ∧ relN f N B H c' m' ∧ r_t (2 * n + e + 1) c' m' ∧ fl N c' m' (128 + 2 * e + n % 2) (4 * e + n % 4).toNat ∧ kp c' m' (64 * e + n % 64) ∧ so w_o c c' ∧ so w_om m m' ∧
      (∀ q j, q ≠ 64 * e + n % 64 → q ≠ 128 + 2 * e + n % 2 → c'.1 9 q j = c.1 9 q j ∧ c'.2.1 9 q j = c.2.1 9 q j) ∧ (∀ j, j < 320 * (64 * e + n % 64) ∨ 320 * (64 * e + n % 64) + 320 ≤ j → m'.1 171 0 j = m.1 171 0 j) ∧ (∀ j, j ≠ 64 * e + n % 64 → m'.1 172 0 j = m.1 172 0 j) ∧ (∀ j, j < 320 * (4 * e + n % 4) ∨ 320 * (4 * e + n % 4) + 320 ≤ j → m'.1 173 0 j = m.1 173 0 j) ∧ (∀ j, j ≠ 4 * e + n % 4 → m'.1 174 0 j = m.1 174 0 j) := by
  have hnow : m.1 12 0 2 = n := by rw [← hnw]; exact R.1.2.2.2.2.2.2.2.1
  have n0 : 0 ≤ n := by rw [← hnw]; exact R.1.2.2.2.2.2.2.2.2.1
  have n1 : n ≤ 10000000 := by rw [← hnw]; exact R.1.2.2.2.2.2.2.2.2.2.1
  have hN : 1 ≤ N ∧ N ≤ 16 := ⟨R.1.2.2.1, R.1.2.2.2.1⟩
  have hNc : c.1 11 0 0 = N := R.1.1
  obtain ⟨u, hu⟩ : ∃ u, u = 64 * e + n % 64 := ⟨_, rfl⟩
  obtain ⟨v, hv⟩ : ∃ v, v = 128 + 2 * e + n % 2 := ⟨_, rfl⟩
  have hvu : v ≠ u := by omega
  obtain ⟨on, hon⟩ : ∃ on : Nat, (on : Int) = 4 * e + n % 4 := ⟨(4 * e + n % 4).toNat, by omega⟩
  have hon2 : (4 * e + n % 4).toNat = on := by omega
  have on8 : on < 8 := by omega
  obtain ⟨c1, mF, s0, k, a, b, d, g, L, a1, b1, RR, ⟨u0, u1, u2, u3, u5, u4⟩, ⟨ra, rb, rd', rg, rk, rL⟩, h164, h166, h162, h165, hs, cfr, crr, soc, som, mFo⟩ := p_fill (u := u) hf hB he R
  have hL := mo_len u4
  obtain ⟨c2, y1, y2, y3, y4, y5, y6⟩ := f_copy c1 v u hvu
  obtain ⟨m2, p1, p2, p3⟩ := m_106 he rk hL rL h164 ⟨h166, rb⟩ h162 ⟨h165, rg⟩ hs
  have m2now : m2.1 12 0 2 = n := by rw [(p3 12 0 2 rfl).1, mFo 12 0 2 (by decide) (by decide)]; exact hnow
  obtain ⟨m3, q1, q2, q3, q4, q5, q6, q7⟩ := m_lay he p2 (by rw [bdy_len]; omega) m2now n0 n1
  have hE : enc (bdy a b d g L ++ bt (65535 - crc (bdy a b d g L)) 16) = enc (ful a b d g L) := rfl
  rw [hE] at q3 q4 q5 q6 q7
  obtain ⟨el1, el2⟩ := enc_len a b d g L hL
  have ebl := enc_bl (ful_bl a b d g L)
  obtain ⟨⟨R0, t0, t1, t2⟩, ⟨R1, s1, s2, s3⟩⟩ := T
  generalize hEE : enc (ful a b d g L) = E at *
  have m3o : ∀ k' j, k' ≠ 162 → k' ≠ 163 → w_by k' j = false → w_sb k' j = false → m3.1 k' 0 j = m.1 k' 0 j := fun k' j z1 z2 z3 z4 => by rw [(q2 k' 0 j z4).1, (p3 k' 0 j z3).1, mFo k' 0 j z1 z2]
  have ts3 : ts m3 R0 := ⟨by rw [m3o 12 75 (by decide) (by decide) rfl rfl]; exact t0.1, t0.2.1, fun j hj => by rw [m3o 176 j (by decide) (by decide) rfl rfl, m3o 177 j (by decide) (by decide) rfl rfl, m3o 178 j (by decide) (by decide) rfl rfl]; exact t0.2.2 j hj⟩
  have mw3 : mw m3 on E := ⟨fun j hj => by
    rw [q5, ← hon, if_pos (by omega), show ((320 * on + j : Nat) : Int) - 320 * (on : Int) = (j : Int) by omega, Int.toNat_natCast], by omega, ebl, on8⟩
  have m3now : m3.1 12 0 2 = n := by rw [(q2 12 0 2 rfl).1]; exact m2now
  obtain ⟨m4, x1, x2, x3, x4⟩ := m_460 he (n := n) ⟨n0, by omega⟩ t2 R0.length j_fu 0 m3 E (by omega) (by have := t0.2.1; unfold j_fu; omega) ts3 mw3 q3 m3now
  rw [List.drop_zero] at x2
  have m4o : ∀ k' j, k' ≠ 162 → k' ≠ 163 → k' ≠ 173 → w_by k' j = false → w_sb k' j = false → m4.1 k' 0 j = m.1 k' 0 j := fun k' j z1 z2 z5 z3 z4 => by rw [x3 k' 0 j (Or.inl z5)]; exact m3o k' j z1 z2 z3 z4
  have tl4 : tl m4 R1 := ⟨by rw [m4o 12 79 (by decide) (by decide) (by decide) rfl rfl]; exact s1.1, s1.2.1, fun j hj => by rw [m4o 180 j (by decide) (by decide) (by decide) rfl rfl, m4o 181 j (by decide) (by decide) (by decide) rfl rfl]; exact s1.2.2 j hj⟩
  have m4now : m4.1 12 0 2 = n := by rw [x3 12 0 2 (Or.inl (by decide))]; exact m3now
  obtain ⟨m5, z1, z2⟩ := m_540 on8 he (n := n) R1.length j_fu 0 m4 (by omega) (by have := s1.2.1; unfold j_fu; omega) tl4 m4now
  rw [List.drop_zero] at z2
  have EM : F12_sends e m = some m5 := by
    rw [b1, p1, q1, ← hon]
    rw [show ((0 : Nat) : Int) = 0 from rfl] at x1 z1
    rw [x1, z1]
  -- the class
  have c2k : ∀ k' n' j, k' ≠ 5 → k' ≠ 9 → c2.1 k' n' j = c.1 k' n' j := fun k' n' j q1 q2 => by rw [(y4 k' n' j (Or.inl q2)).1, (cfr k' n' j (Or.inl ⟨q1, q2⟩)).1]
  have T0 : tc c2 0 (fc (2 * n + e) R0) := tc_cg (fun k j q => c2k k 0 j (by omega) (by omega)) t1
  have h9 : ∀ x, x = u ∨ x = v → c2.1 9 x 0 = (a : Int) ∧ c2.1 9 x 1 = (b : Int) ∧ c2.1 9 x 2 = (d : Int) ∧ c2.1 9 x 3 = (g : Int) ∧ c2.1 9 x 5 = 0 ∧ mo L (c2.2.1 9 x 4) := fun x hx => by
    rcases hx with rfl | rfl
    · have yy := fun j => y4 9 x j (Or.inr (Ne.symm hvu))
      rw [(yy 0).1, (yy 1).1, (yy 2).1, (yy 3).1, (yy 5).1, (yy 4).2]
      exact ⟨u0, u1, u2, u3, u5, u4⟩
    · rw [y2 0 (by omega), y2 1 (by omega), y2 2 (by omega), y2 3 (by omega), y2 5 (by omega), y3]
      exact ⟨u0, u1, u2, u3, u5, u4⟩
  have c2now : c2.1 11 0 10 = n := by rw [c2k 11 0 10 (by decide) (by decide)]; exact hnw
  have c2N : c2.1 11 0 0 = N := by rw [c2k 11 0 0 (by decide) (by decide)]; exact hNc
  obtain ⟨cS, e1, e2, e3, e4, e5⟩ := p_spoil he (n := n) ⟨n0, by omega⟩ hN hvu h9 ⟨ra, rb, rd', rg⟩ T0 t2 c2now c2N
  rw [hEE] at e5
  have T1 : tc cS 1 (fc (2 * n + e) R1) := tc_cg (fun k j q => by rw [(e3 k 1 j (by omega)).1, c2k k 1 j (by omega) (by omega)]) s2
  have cSnow : cS.1 11 0 10 = n := by rw [(e3 11 0 10 (by omega)).1]; exact c2now
  have we : w32 (e + 1) = e + 1 := w32_of (by omega) (by omega)
  have c1now : c1.1 11 0 10 = n := by rw [(cfr 11 0 10 (by omega)).1]; exact hnw
  have EC : ∀ k2, F11_sendUnits_2b k2 e c = F11_sendUnits_131 k2 e (some v) cS := fun k2 => by
    rw [f_snd1 he hnw n0 n1 hu hv a1 c1now y1]
    simp only [f_snd2]
    exact e1 (fun h => F11_sendUnits_131 k2 e (some v) h)
  have som4 : so w_om m m4 := so_tr (so_tr (so_tr som (so_mono w_m3 p3)) (so_mono w_m4 q2)) (fun k' n' j q => ⟨x3 k' n' j (Or.inl (w_m6 k' j q).1), by rw [x4], by rw [x4]⟩)
  have soS : so w_o c cS := so_tr soc (so_tr y6 e4)
  have q174 : m4.1 174 0 (on : Int) = (E.length : Int) := by rw [x3 174 0 _ (Or.inl (by decide)), q7, ← hon, if_pos rfl]
  -- what both ends of this share
  have fin : ∀ c' m5 : JM, so w_o cS c' → c'.2.1 = cS.2.1 → (∀ k n' j, (k ≠ 7 ∧ k ≠ 34 ∧ k ≠ 35 ∧ k ≠ 9) ∨ (k = 9 ∧ n' ≠ v) ∨ ((k = 7 ∨ k = 34 ∨ k = 35) ∧ n' ≠ 1) → c'.1 k n' j = cS.1 k n' j) → tc c' 1 (fc (2 * n + e + 1) R1) → (∀ k' n' j, k' ≠ 174 ∨ j ≠ (on : Int) → m5.1 k' n' j = m4.1 k' n' j) → m5.2 = m4.2 → fl N c' m5 v on → relN f N B H c' m5 ∧ r_t (2 * n + e + 1) c' m5 ∧ fl N c' m5 v on ∧ kp c' m5 u ∧ so w_o c c' ∧ so w_om m m5 ∧ (∀ q j, q ≠ u → q ≠ v → c'.1 9 q j = c.1 9 q j ∧ c'.2.1 9 q j = c.2.1 9 q j) ∧ (∀ j, j < 320 * u ∨ 320 * u + 320 ≤ j → m5.1 171 0 j = m.1 171 0 j) ∧ (∀ j, j ≠ u → m5.1 172 0 j = m.1 172 0 j) ∧ (∀ j, j < 320 * (on : Int) ∨ 320 * (on : Int) + 320 ≤ j → m5.1 173 0 j = m.1 173 0 j) ∧ (∀ j, j ≠ (on : Int) → m5.1 174 0 j = m.1 174 0 j) := fun c' m5 h1 h2 h3 h4 h5 h6 h7 => by
    have so' : so w_o c c' := so_tr soS h1
    have som' : so w_om m m5 := so_tr som4 (fun k' n' j q => ⟨h5 k' n' j (Or.inl (w_m6 k' j q).2), by rw [h6], by rw [h6]⟩)
    have c5 : ∀ n' j, c'.1 5 n' j = c1.1 5 n' j := fun n' j => by rw [h3 5 n' j (Or.inl (by decide)), (e3 5 n' j (Or.inl (by decide))).1, (y4 5 n' j (Or.inl (by decide))).1]
    have c31 : ∀ n' j, c'.2.1 31 n' j = c1.2.1 31 n' j ∧ c'.1 31 n' j = c1.1 31 n' j := fun n' j => ⟨by rw [h2, (e3 31 n' j (Or.inl (by decide))).2, (y4 31 n' j (Or.inl (by decide))).2], by rw [h3 31 n' j (Or.inl (by decide)), (e3 31 n' j (Or.inl (by decide))).1, (y4 31 n' j (Or.inl (by decide))).1]⟩
    have c5L : ∀ n' j, c'.2.1 5 n' j = c1.2.1 5 n' j := fun n' j => by rw [h2, (e3 5 n' j (Or.inl (by decide))).2, (y4 5 n' j (Or.inl (by decide))).2]
    have mm : ∀ k n' j, 158 ≤ k → k ≤ 167 → m5.1 k n' j = mF.1 k n' j := fun k n' j a b => by
      rw [h5 k n' j (Or.inl (nm_k a b (by decide))), x3 k n' j (Or.inl (nm_k a b (by decide))), (q2 k n' j (w_m1 k j a b)).1, (p3 k n' j (w_m2 k j a b)).1]
    have cu : ∀ q j, q ≠ v → c'.1 9 q j = c2.1 9 q j ∧ c'.2.1 9 q j = c2.2.1 9 q j := fun q j z => ⟨by rw [h3 9 q j (Or.inr (Or.inl ⟨rfl, z⟩)), (e3 9 q j (Or.inr (Or.inl ⟨rfl, z⟩))).1], by rw [h2, (e3 9 q j (Or.inr (Or.inl ⟨rfl, z⟩))).2]⟩
    refine ⟨rel_o hf R so' som' (fun x hx => r_m_cg (fun k n' j q => by rcases q with rfl | rfl; exact ⟨c5 n' j, c5L n' j⟩; exact ⟨(c31 n' j).2, (c31 n' j).1⟩) (fun k n' j a b => mm k n' j a b) (RR.2.2.2.1 x hx)), ⟨⟨R0, ?_, tc_cg (fun k j q => h3 k 0 j (Or.inr (Or.inr ⟨q, by decide⟩))) e2, t2⟩, ⟨R1, ?_, h4, s3⟩⟩, h7, ?_, so', som', fun q j z1 z2 => ?_, fun j hj => ?_, fun j hj => ?_, fun j hj => ?_, fun j hj => ?_⟩
    · exact ⟨by rw [h5 12 0 75 (Or.inl (by decide)), m4o 12 75 (by decide) (by decide) (by decide) rfl rfl]; exact t0.1, t0.2.1, fun j hj => by rw [h5 176 0 j (Or.inl (by decide)), h5 177 0 j (Or.inl (by decide)), h5 178 0 j (Or.inl (by decide)), m4o 176 j (by decide) (by decide) (by decide) rfl rfl, m4o 177 j (by decide) (by decide) (by decide) rfl rfl, m4o 178 j (by decide) (by decide) (by decide) rfl rfl]; exact t0.2.2 j hj⟩
    · exact ⟨by rw [h5 12 0 79 (Or.inl (by decide))]; exact tl4.1, tl4.2.1, fun j hj => by rw [h5 180 0 j (Or.inl (by decide)), h5 181 0 j (Or.inl (by decide))]; exact tl4.2.2 j hj⟩
    · obtain ⟨f0, f1, f2, f3, _, f4⟩ := h9 u (Or.inl rfl)
      have hne := Ne.symm hvu
      refine ⟨a, b, d, g, L, by rw [(cu u 0 hne).1]; exact f0, by rw [(cu u 1 hne).1]; exact f1, by rw [(cu u 2 hne).1]; exact f2, by rw [(cu u 3 hne).1]; exact f3, by rw [(cu u 4 hne).2]; exact f4, ⟨ra, rb, rd', rg⟩, ?_, fun j hj => ?_⟩
      · rw [hEE, h5 172 0 u (Or.inl (by decide)), x3 172 0 u (Or.inl (by decide)), q6, if_pos hu]
      · rw [hEE] at hj ⊢
        rw [h5 171 0 _ (Or.inl (by decide)), x3 171 0 _ (Or.inl (by decide)), q4, ← hu, if_pos (nm_i hj), nm_s, Int.toNat_natCast]
    · rw [(cu q j z2).1, (cu q j z2).2, (y4 9 q j (Or.inr z2)).1, (y4 9 q j (Or.inr z2)).2]
      exact cfr 9 q j (Or.inr ⟨rfl, z1⟩)
    · rw [h5 171 0 j (Or.inl (by decide)), x3 171 0 j (Or.inl (by decide)), q4, ← hu, if_neg (nm_o el2 hj), (p3 171 0 j rfl).1, mFo 171 0 j (by decide) (by decide)]
    · rw [h5 172 0 j (Or.inl (by decide)), x3 172 0 j (Or.inl (by decide)), q6, ← hu, if_neg hj, (p3 172 0 j rfl).1, mFo 172 0 j (by decide) (by decide)]
    · rw [h5 173 0 j (Or.inl (by decide)), x3 173 0 j (Or.inr hj), q5, ← hon, if_neg (nm_o el2 hj), (p3 173 0 j rfl).1, mFo 173 0 j (by decide) (by decide)]
    · rw [h5 174 0 j (Or.inr hj), x3 174 0 j (Or.inl (by decide)), q7, ← hon, if_neg hj, (p3 174 0 j rfl).1, mFo 174 0 j (by decide) (by decide)]
  rw [hon2, ← hu, ← hv, ← hon]
  rcases f_concern T1 he (n := n) ⟨n0, by omega⟩ fc_ge with ⟨hc, pp, hp1, hp2⟩ | ⟨hc, hno⟩
  · obtain ⟨cL, g1, g2, g3, g4⟩ := f_forget he (n := n) ⟨n0, by omega⟩ T1
    rw [fc_s] at g2
    have hm5 : m5 = sI m4 174 0 (on : Int) 0 := by
      rcases z2 with ⟨_, w⟩ | ⟨w, _⟩
      · exact absurd hp2 (w pp (List.mem_filter.1 hp1).1)
      · exact w
    have F := fin (sI cL 9 v 5 2) m5 (so_I (fun k n' j q => ⟨g3 k n' j (Or.inl (w_m5 k j q)), by rw [g4], by rw [g4]⟩) rfl _ _) (by rw [← g4]; rfl) (fun k n' j q => by rw [rI_o (nm_q1 q).1]; exact g3 k n' j (nm_q1 (j := 0) q).2) (tc_cg (fun k j q => rI_o (Or.inl (by rcases q with rfl | rfl | rfl <;> decide))) g2) (fun k' n' j q => by rw [hm5, rI_o (q.elim Or.inl (fun h => Or.inr (Or.inr h)))]) (by rw [hm5]; rfl) (Or.inl ⟨rI_s _ _ _ _ _, by rw [hm5, rI_s]⟩)
    refine ⟨sI cL 9 v 5 2, m5, fun k2 => ?_, EM, F⟩
    rw [EC]
    unfold F11_sendUnits_131 F11_sendUnits_164
    rw [cSnow, hc, Option.bind_some]
    dsimp only
    rw [if_neg (by decide), cSnow, g1, Option.bind_some, Option.bind_some, lt_d, we]
  · have hm5 : m5 = m4 := by
      rcases z2 with ⟨w, _⟩ | ⟨_, pp, w1, w2⟩
      · exact w
      · exact absurd w2 (hno pp (fc_m w1 w2))
    have F := fin cS m5 (so_rfl cS) rfl (fun _ _ _ _ => rfl) (by rw [← fc_n hno]; exact T1) (fun k' n' j q => by rw [hm5]) (by rw [hm5]) (Or.inr ⟨fls (2 * n + e) E R0, by rw [hm5]; exact x2, by rw [fls_len]; exact Nat.le_trans (by decide) el1, by rw [hm5, q174, fls_len], e5⟩)
    refine ⟨cS, m5, fun k2 => ?_, EM, F⟩
    rw [EC]
    unfold F11_sendUnits_131 F11_sendUnits_164
    rw [cSnow, hc, Option.bind_some, if_pos rfl, we]
end SR
