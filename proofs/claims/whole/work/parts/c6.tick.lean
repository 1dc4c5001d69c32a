/-! ===== one tick ===== -/
def r_all (f : Int → Int) (N B : Int) (c m : JM) : Prop := relN f N B (48, aL) c m ∧ r_d c m ∧ r_s N c m ∧ r_u N (c.1 11 0 10) c m
def wTk (k : Nat) (j : Int) : Bool := w_D k j || w_W k j || w_S k j || w_o k j || w_sw k j || (k == 11 && j == 10)
def wTm (k : Nat) (j : Int) : Bool := w_T k j || w_V k j || w_Sm k j || w_om k j || (k == 12 && j == 2)
theorem wb_D : ∀ k j, wB k j = false → w_D k j = false := fun k j h => by
  simp [wB] at h
  have h4 : k = 9 ∨ k = 7 ∨ k = 34 ∨ k = 35 := by omega
  rcases h4 with h4 | h4 | h4 | h4 <;> (subst h4; rfl)
theorem wb_W : ∀ k j, wB k j = false → w_W k j = false := fun k j h => by
  simp [wB] at h
  have h4 : k = 9 ∨ k = 7 ∨ k = 34 ∨ k = 35 := by omega
  rcases h4 with h4 | h4 | h4 | h4 <;> (subst h4; rfl)
theorem wb_C : ∀ k j, wB k j = false → w_C k j = false := fun k j h => by
  simp [wB] at h
  have h4 : k = 9 ∨ k = 7 ∨ k = 34 ∨ k = 35 := by omega
  rcases h4 with h4 | h4 | h4 | h4 <;> (subst h4; rfl)
theorem wb_S : ∀ k j, wB k j = false → w_S k j = false := fun k j h => by
  simp [wB] at h
  have h4 : k = 9 ∨ k = 7 ∨ k = 34 ∨ k = 35 := by omega
  rcases h4 with h4 | h4 | h4 | h4 <;> (subst h4; rfl)
theorem wb_sw : ∀ k j, wB k j = false → w_sw k j = false := fun k j h => by
  simp [wB] at h
  have h4 : k = 9 ∨ k = 7 ∨ k = 34 ∨ k = 35 := by omega
  rcases h4 with h4 | h4 | h4 | h4 <;> (subst h4; rfl)
theorem wm_T : ∀ k j, wBm k j = false → w_T k j = false := fun k j h => by
  simp [wBm] at h; simp [w_T, w_DM, w_M]; omega
theorem wm_V : ∀ k j, wBm k j = false → w_V k j = false := fun k j h => by
  simp [wBm] at h; simp [w_V, w_M]; omega
theorem wm_M : ∀ k j, wBm k j = false → w_M k j = false := fun k j h => by
  simp [wBm] at h; simp [w_M]; omega
theorem wm_S : ∀ k j, wBm k j = false → w_Sm k j = false := fun k j h => by
  simp [wBm] at h; simp [w_Sm]; omega
theorem tkw_D : ∀ k j, wTk k j = false → w_D k j = false := fun k j h => by
  unfold wTk at h
  revert h
  cases w_D k j <;> simp
theorem tkw_W : ∀ k j, wTk k j = false → w_W k j = false := fun k j h => by
  unfold wTk at h
  revert h
  cases w_W k j <;> simp
theorem tkw_S : ∀ k j, wTk k j = false → w_S k j = false := fun k j h => by
  unfold wTk at h
  revert h
  cases w_S k j <;> simp
theorem tkw_o : ∀ k j, wTk k j = false → w_o k j = false := fun k j h => by
  unfold wTk at h
  revert h
  cases w_o k j <;> simp
theorem tkw_sw : ∀ k j, wTk k j = false → w_sw k j = false := fun k j h => by
  unfold wTk at h
  revert h
  cases w_sw k j <;> simp
theorem tkw_T : ∀ k j, wTm k j = false → w_T k j = false := fun k j h => by
  unfold wTm at h
  revert h
  cases w_T k j <;> simp
theorem tkw_V : ∀ k j, wTm k j = false → w_V k j = false := fun k j h => by
  unfold wTm at h
  revert h
  cases w_V k j <;> simp
theorem tkw_Sm : ∀ k j, wTm k j = false → w_Sm k j = false := fun k j h => by
  unfold wTm at h
  revert h
  cases w_Sm k j <;> simp
theorem tkw_om : ∀ k j, wTm k j = false → w_om k j = false := fun k j h => by
  unfold wTm at h
  revert h
  cases w_om k j <;> simp
theorem tkw_C : ∀ k j, wTk k j = false → w_C k j = false := fun k j h => by
  have h := tkw_D k j h
  unfold w_D at h
  revert h
  cases w_C k j <;> simp
theorem tkw_M : ∀ k j, wTm k j = false → w_M k j = false := fun k j h => by
  have h := tkw_V k j h
  unfold w_V at h
  revert h
  cases w_M k j <;> simp
section TK1
variable {f : Int → Int} {N : Int} {c m : JM} {B : Int}
theorem p_tick1 (hf : f_ok f) (hB : B + 1000 < 1000000000) (R : r_all f N B c m) (hn : c.1 11 0 10 < 10000000) : ∃ f' c' m', f_ok f' ∧
    (∀ (k30 : Int → Int → JM → Option (Int × JM)) (l1 l2 : Int), l2 < l1 → F11_tick_30b k30 l1 l2 c = k30 l1 (w32 (l2 + 1)) c') ∧
    (∀ (k32 : Int → Int → JM → Option (Int × JM)) (l1 l2 : Int), l2 < l1 → F12_tick_32b k32 l1 l2 m = k32 l1 (w32 (l2 + 1)) m') ∧
    r_all f' N (B + 686) c' m' ∧ c'.1 11 0 10 = c.1 11 0 10 + 1 ∧ so wTk c c' ∧ so wTm m m' := by
  have h100 := so_fu
  obtain ⟨R0, D0, S0, U0⟩ := R
  have n0 : 0 ≤ c.1 11 0 10 := R0.1.2.2.2.2.2.2.2.2.1
  obtain ⟨f1, c1, mm1, m1, hf1, a1, a2, a3, R1, sc1, sm1⟩ := p_takes hf (by omega) (by omega) U0.2.1 R0
  have D1 : r_d c1 m1 := r_d_cg2 (fun l j q => (sc1 4 l j (by rcases q with rfl | rfl | rfl | rfl <;> rfl)).1) (fun l j => (sc1 30 l j rfl).1) (fun j => (sm1 117 0 j rfl).1) D0
  have S1 : r_s N c1 m1 := r_s_cg (fun l => (sc1 4 l 18 rfl).1) (fun t => (sc1 8 t 4 rfl).1) (fun j => (sm1 184 0 j rfl).1) S0
  have U1 : r_u N (c.1 11 0 10) c1 m1 := r_u_cg (so_mono wb_D sc1) (so_mono wm_T sm1) U0
  obtain ⟨f2, c2, m2, hf2, b1, b2, R2, D2, sc2, sm2⟩ := p_watch 16 j_fu j_fu 0 (48 + 2) (B + 62) f1 c1 m1 hf1 R1 D1 (by omega) (by omega) (by omega) (by omega) (by omega) (by omega)
  have S2 : r_s N c2 m2 := r_s_cg (fun l => (sc2 4 l 18 rfl).1) (fun t => (sc2 8 t 4 rfl).1) (fun j => (sm2 184 0 j rfl).1) S1
  have U2 : r_u N (c.1 11 0 10) c2 m2 := r_u_cg (so_mono wb_W sc2) (so_mono wm_V sm2) U1
  obtain ⟨c3, m3, d1, d2, R3, sc3, sm3⟩ := p_times hf2 (by omega) R2
  have D3 : r_d c3 m3 := r_d_cg2 (fun l j q => (sc3 4 l j (by rcases q with rfl | rfl | rfl | rfl <;> rfl)).1) (fun l j => (sc3 30 l j rfl).1) (fun j => (sm3 117 0 j rfl).1) D2
  have S3 : r_s N c3 m3 := r_s_cg (fun l => (sc3 4 l 18 rfl).1) (fun t => (sc3 8 t 4 rfl).1) (fun j => (sm3 184 0 j rfl).1) S2
  have U3 : r_u N (c.1 11 0 10) c3 m3 := r_u_cg (so_mono wb_C sc3) (so_mono wm_M sm3) U2
  obtain ⟨c4, m4, e1, R4, sc4, sm4, e2⟩ := p_serves hf2 (by omega) 6 j_fu 0 c3 m3 R3 (by omega) (by omega) (by omega)
  have D4 : r_d c4 m4 := r_d_cg2 (fun l j q => (sc4 4 l j (by rcases q with rfl | rfl | rfl | rfl <;> rfl)).1) (fun l j => (sc4 30 l j rfl).1) (fun j => (sm4 117 0 j rfl).1) D3
  have S4 : r_s N c4 m4 := r_s_cg (fun l => (sc4 4 l 18 rfl).1) (fun t => (sc4 8 t 4 rfl).1) (fun j => (sm4 184 0 j rfl).1) S3
  have U4 : r_u N (c.1 11 0 10) c4 m4 := r_u_cg (so_mono wb_C sc4) (so_mono wm_M sm4) U3
  obtain ⟨c5, m5, g1, g2, R5, S5, sc5, sm5⟩ := p_speech hf2 R4 S4
  have D5 : r_d c5 m5 := r_d_cg2 (fun l j q => (sc5 4 l j (by rcases q with rfl | rfl | rfl | rfl <;> rfl)).1) (fun l j => (sc5 30 l j rfl).1) (fun j => (sm5 117 0 j rfl).1) D4
  have U5 : r_u N (c.1 11 0 10) c5 m5 := r_u_cg (so_mono wb_S sc5) (so_mono wm_S sm5) U4
  have now5 : c5.1 11 0 10 = c.1 11 0 10 := by
    rw [(sc5 11 0 10 rfl).1, (sc4 11 0 10 rfl).1, (sc3 11 0 10 rfl).1, (sc2 11 0 10 rfl).1, (sc1 11 0 10 rfl).1]
  obtain ⟨c6, mm6, m6, i1, i2, i3, R6, T6, W6, K6, sc6, sm6⟩ := p_sends hf2 (by omega) now5 R5 U5.1 U5.2.1 U5.2.2
  have D6 : r_d c6 m6 := r_d_cg2 (fun l j q => (sc6 4 l j (by rcases q with rfl | rfl | rfl | rfl <;> rfl)).1) (fun l j => (sc6 30 l j rfl).1) (fun j => (sm6 117 0 j rfl).1) D5
  have S6 : r_s N c6 m6 := r_s_cg (fun l => (sc6 4 l 18 rfl).1) (fun t => (sc6 8 t 4 rfl).1) (fun j => (sm6 184 0 j rfl).1) S5
  obtain ⟨c7, o1, R7, sc7⟩ := p_sweep hf2 R6
  have D7 : r_d c7 m6 := r_d_cg2 (fun l j q => (sc7 4 l j (by rcases q with rfl | rfl | rfl | rfl <;> rfl)).1) (fun l j => (sc7 30 l j rfl).1) (fun j => rfl) D6
  have S7 : r_s N c7 m6 := r_s_cg (fun l => (sc7 4 l 18 rfl).1) (fun t => (sc7 8 t 4 rfl).1) (fun j => rfl) S6
  have U7 : r_u N (c.1 11 0 10 + 1) c7 m6 := r_u_cg (so_mono wb_sw sc7) (so_rfl m6) ⟨T6, W6, K6⟩
  have now7 : c7.1 11 0 10 = c.1 11 0 10 := by rw [(sc7 11 0 10 rfl).1, (sc6 11 0 10 rfl).1, now5]
  have nowm : m6.1 12 0 2 = c.1 11 0 10 := by rw [← now7]; exact R7.1.2.2.2.2.2.2.2.1
  have R8 := rel_now hf2 R7 (by rw [now7]; exact hn)
  have hw : w32 (c7.1 11 0 10 + 1) = c7.1 11 0 10 + 1 := by rw [now7]; exact w32_of (by omega) (by omega)
  have hwm : w32 (m6.1 12 0 2 + 1) = m6.1 12 0 2 + 1 := by rw [nowm]; exact w32_of (by omega) (by omega)
  have ke : ∀ k n j, ¬ (k = 11 ∧ j = 10) → (sI c7 11 0 10 (c7.1 11 0 10 + 1)).1 k n j = c7.1 k n j := fun k n j z => by rw [rI_I, if_neg (fun y => z ⟨y.1, y.2.2⟩)]
  have kn : (sI c7 11 0 10 (c7.1 11 0 10 + 1)).1 11 0 10 = c.1 11 0 10 + 1 := by rw [rI_I, if_pos ⟨rfl, rfl, rfl⟩, now7]
  have km : ∀ k n j, ¬ (k = 12 ∧ j = 2) → (sI m6 12 0 2 (m6.1 12 0 2 + 1)).1 k n j = m6.1 k n j := fun k n j z => by rw [rI_I, if_neg (fun y => z ⟨y.1, y.2.2⟩)]
  refine ⟨f2, sI c7 11 0 10 (c7.1 11 0 10 + 1), sI m6 12 0 2 (m6.1 12 0 2 + 1), hf2, fun k30 l1 l2 hl => ?_, fun k32 l1 l2 hl => ?_, ⟨?_, ?_, ?_, ?_⟩, kn, so_I (so_tr (so_mono tkw_D sc1) (so_tr (so_mono tkw_W sc2) (so_tr (so_mono tkw_C sc3) (so_tr (so_mono tkw_C sc4) (so_tr (so_mono tkw_S sc5) (so_tr (so_mono tkw_o sc6) (so_mono tkw_sw sc7))))))) rfl _ _, so_I (so_tr (so_mono tkw_T sm1) (so_tr (so_mono tkw_V sm2) (so_tr (so_mono tkw_M sm3) (so_tr (so_mono tkw_M sm4) (so_tr (so_mono tkw_Sm sm5) (so_mono tkw_om sm6)))))) rfl _ _⟩
  · unfold F11_tick_30b F11_watchLines F11_serveGroups
    rw [if_neg (by omega), a1, Option.bind_some, b1, Option.bind_some, d1, Option.bind_some, e1, Option.bind_some, g1, Option.bind_some, i1, Option.bind_some, o1, Option.bind_some, lt_d, hw]
  · unfold F12_tick_32b
    rw [if_neg (by omega), a2, Option.bind_some, a3, Option.bind_some, b2 k32 l1 l2]
    unfold F12_tick_49b
    rw [if_pos (by decide), d2, Option.bind_some, e2 k32 j_fu l1 l2 (by omega)]
    unfold F12_tick_72b
    rw [if_pos (by decide), g2, Option.bind_some, i2, Option.bind_some, i3, Option.bind_some, lt_d, hwm]
  · have e : B + 62 + 12 * ((16 : Nat) : Int) + 432 = B + 686 := by omega
    rw [← e]; exact R8
  · exact r_d_cg2 (fun l j _ => ke 4 l j (fun z => absurd z.1 (by decide))) (fun l j => ke 30 l j (fun z => absurd z.1 (by decide))) (fun j => km 117 0 j (fun z => absurd z.1 (by decide))) D7
  · exact r_s_cg (fun l => ke 4 l 18 (fun z => absurd z.1 (by decide))) (fun t => ke 8 t 4 (fun z => absurd z.1 (by decide))) (fun j => km 184 0 j (fun z => absurd z.1 (by decide))) S7
  · rw [kn]
    refine r_u_cg (c := c7) (m := m6) ?_ ?_ U7
    · exact so_I (so_rfl c7) rfl _ _
    · exact so_I (so_rfl m6) rfl _ _
end TK1
