/-! ===== messages that come: a new call ===== -/
section SL
variable {f : Int → Int} {N z1 z2 X : Int} {sec : Option Int} {Y zd : Int} {c m c' m' : JM} {B B' : Int} {H : HT}
theorem m_in68 {s n : Int} (hs : 0 ≤ s ∧ s < 80) (hn : 0 ≤ n ∧ n ≤ 12) : ∀ (d : Nat) (fu : Nat) (i : Int) (h : JM), 0 ≤ i → i + d = n → d < fu → h.1 168 0 3 = n →
    ∃ h', F12_incoming_68 fu s i h = F12_incoming_68b (fun _ _ _ => none) s n h' ∧ h'.2 = h.2 ∧ ∀ k n' j, h'.1 k n' j = if k = 139 ∧ n' = 0 ∧ 12 * s + i ≤ j ∧ j < 12 * s + n then h.1 168 0 (4 + (j - 12 * s)) else h.1 k n' j
  | _, 0, _, _, _, _, q, _ => by omega
  | 0, fu + 1, i, h, i0, e, _, h3 => by
    refine ⟨h, ?_, rfl, fun k n' j => by rw [if_neg (by omega)]⟩
    show F12_incoming_68b (F12_incoming_68 fu) s i h = _
    rw [show i = n by omega]
    unfold F12_incoming_68b
    rw [g_t (by omega), if_pos (by omega), g_t (by omega), if_pos (by omega)]
  | d + 1, fu + 1, i, h, i0, e, q, h3 => by
    have w1 : w32 (i + 1) = i + 1 := w32_of (by omega) (by omega)
    have w2 : w32 (12 * s) = 12 * s := w32_of (by omega) (by omega)
    have w3 : w32 (12 * s + i) = 12 * s + i := w32_of (by omega) (by omega)
    have w4 : w32 (4 + i) = 4 + i := w32_of (by omega) (by omega)
    obtain ⟨h', y1, y2, y3⟩ := m_in68 hs hn d fu (i + 1) (sI h 139 0 (12 * s + i) (h.1 168 0 (4 + i))) (by omega) (by omega) (by omega) (by rw [rI_o (by omega)]; exact h3)
    refine ⟨h', ?_, y2, fun k n' j => ?_⟩
    · show F12_incoming_68b (F12_incoming_68 fu) s i h = _
      rw [← y1]
      conv => lhs; unfold F12_incoming_68b
      rw [g_t (by omega), if_neg (by omega), w4, w2, w3, w1, g_t (by omega), g_t (by omega), lt_d]
    · rw [y3]
      by_cases z : k = 139 ∧ n' = 0
      · obtain ⟨rfl, rfl⟩ := z
        by_cases z2 : j = 12 * s + i
        · subst z2; rw [if_neg (by omega), rI_s, if_pos (by omega)]; exact cgI _ _ _ (by omega)
        · by_cases z3 : 12 * s + (i + 1) ≤ j ∧ j < 12 * s + n
          · rw [if_pos (by omega), rI_o (by omega), if_pos (by omega)]
          · rw [if_neg (by omega), rI_o (by omega), if_neg (by omega)]
      · rw [if_neg (by omega), rI_o (by omega), if_neg (by omega)]
theorem p_inc (hf : f_ok f) (hB : B + 100 < 2000000000) {h : Int} {L : Int → Prop} (hh : h + 1 ≤ 72) {e k t w x : Int} {K : List Nat} (he : e = 0 ∨ e = 1) (hk : 0 ≤ k ∧ k < N) (ht : t = 16 * e + k) (hK : k_ok K) (hw : 0 ≤ w ∧ w ≤ 5)
    (xw : ∀ q : JM, F9_forwardsOf x q = some (w, q)) (xk : ∀ q : JM, F9_keysOf x q = some ((k_P K : Int), q))
    (c0 : m.1 168 0 0 = k) (c2 : m.1 168 0 2 = w) (c3 : m.1 168 0 3 = (K.length : Int)) (c4 : ∀ j : Nat, j < K.length → m.1 168 0 (4 + j) = (K.getD j 0 : Int))
    (hY : Y = -1 ∨ Y = t) (h3 : c.2.2 8 t 3 = none) (R : rel f N (-1) (-1) (-1) none Y (-1) B (h, L) c m) :
    ∃ f' c' m', f_ok f' ∧ F11_takeIam_63 (some e) (some t) x c = some c' ∧ F12_incoming e m = some m' ∧ relN f' N (B + 10) (h + 1, aL) c' m' ∧ so w_D c c' ∧ so w_DM m m' := by
  have hN := R.1.2.2.2.1
  have hnow : m.1 12 0 2 = c.1 11 0 10 := R.1.2.2.2.2.2.2.2.1
  have t0 : 0 ≤ t ∧ t < 32 := by omega
  have hKl := hK.1
  obtain ⟨id, f', hf', i0, i1, h40, hd, hm, R2, em, c11, c12, c13⟩ := p_new hf R hh (by omega) e (100 + k) (sI m 154 0 t 2) (fun j => rI_o (by omega)) (rI_o (by omega))
  have ec := f_make (c := sI c 8 t 2 2) (e := e) (id := id) (by rw [rI_o (by omega)]; exact c11) (by rw [rI_o (by omega)]; exact c12) (by rw [rI_o (by omega)]; exact c13) (by rw [rI_o (by omega)]; exact h40)
  have hs := hf'.2.2.1 id i0 (by omega)
  obtain ⟨C, hC⟩ : ∃ y, y = sL (sI (sR (sR (c_new (sI c 8 t 2 2) id (some e)) 8 t 3 (some id)) 0 id 2 (some t)) 0 id 12 w) 0 id 8 (k_P K : Int) := ⟨_, rfl⟩
  obtain ⟨M0, hM0⟩ : ∃ y, y = sI (sI (sI (m_new (sI m 154 0 t 2) e (100 + k) (f' id)) 155 0 t (f' id)) 144 0 (f' id) w) 140 0 (f' id) (K.length : Int) := ⟨_, rfl⟩
  have M0I : ∀ k' n j, M0.1 k' n j = if k' = 140 ∧ n = 0 ∧ j = f' id then (K.length : Int) else if k' = 144 ∧ n = 0 ∧ j = f' id then w else if k' = 155 ∧ n = 0 ∧ j = t then f' id else (m_new (sI m 154 0 t 2) e (100 + k) (f' id)).1 k' n j := fun k' n j => by rw [hM0, rI_I, rI_I, rI_I]
  have M168 : ∀ j, M0.1 168 0 j = m.1 168 0 j := fun j => by
    rw [M0I, if_neg (by omega), if_neg (by omega), if_neg (by omega), m_new_I, if_neg (by omega), if_neg (by omega), if_neg (by omega), if_neg (by omega), if_neg (by omega), if_neg (by omega), if_neg (by omega), if_neg (by omega), rI_o (by omega)]
  obtain ⟨M, y1, y2, y3⟩ := m_in68 (s := f' id) (n := (K.length : Int)) hs (by omega) K.length j_fu 0 M0 (by omega) (by omega) (by unfold j_fu; omega) (by rw [M168]; exact c3)
  have MI : ∀ k' n j, k' ≠ 139 → M.1 k' n j = M0.1 k' n j := fun k' n j q => by rw [y3, if_neg (by omega)]
  have E2 : F12_incoming e m = F12_incoming_68b (fun _ _ _ => none) (f' id) (K.length : Int) M := by
    have wt : w32 (w32 (16 * e) + k) = t := by rw [w32_of (x := 16 * e) (by omega) (by omega), w32_of (by omega) (by omega)]; omega
    have wk : w32 (100 + k) = 100 + k := w32_of (by omega) (by omega)
    unfold F12_incoming
    rw [g_t (by omega), lt_d, c0, wt, g_t t0, lt_d, g_t (by omega), show (sI m 154 0 t 2).1 168 0 0 = k by rw [rI_o (by omega)]; exact c0, wk, em, Option.bind_some, g_t t0, lt_d, g_t (by omega), g_t hs, lt_d, g_t (by omega), g_t hs, lt_d]
    have e1 : (sI (m_new (sI m 154 0 t 2) e (100 + k) (f' id)) 155 0 t (f' id)).1 168 0 2 = w := by
      rw [rI_o (by omega), m_new_I, if_neg (by omega), if_neg (by omega), if_neg (by omega), if_neg (by omega), if_neg (by omega), if_neg (by omega), if_neg (by omega), if_neg (by omega), rI_o (by omega)]; exact c2
    have e2 : (sI (sI (m_new (sI m 154 0 t 2) e (100 + k) (f' id)) 155 0 t (f' id)) 144 0 (f' id) w).1 168 0 3 = (K.length : Int) := by
      rw [rI_o (by omega), rI_o (by omega), m_new_I, if_neg (by omega), if_neg (by omega), if_neg (by omega), if_neg (by omega), if_neg (by omega), if_neg (by omega), if_neg (by omega), if_neg (by omega), rI_o (by omega)]; exact c3
    rw [e1, e2, ← hM0, y1]
  have C1 : ∀ k' n j, C.1 k' n j = if k' = 0 ∧ n = id ∧ j = 12 then w else (c_new (sI c 8 t 2 2) id (some e)).1 k' n j := fun k' n j => by rw [hC, rL_I, rI_I]; rfl
  have CR : ∀ k' n j, C.2.2 k' n j = if k' = 0 ∧ n = id ∧ j = 2 then some t else if k' = 8 ∧ n = t ∧ j = 3 then some id else (c_new (sI c 8 t 2 2) id (some e)).2.2 k' n j := fun k' n j => by rw [hC, rL_R, rI_R, rR_R, rR_R]
  have CL : ∀ k' n j, C.2.1 k' n j = if k' = 0 ∧ n = id ∧ j = 8 then (k_P K : Int) else (c_new (sI c 8 t 2 2) id (some e)).2.1 k' n j := fun k' n j => by rw [hC, rL_L]; rfl
  have CI : ∀ k' n j, C.1 k' n j = if k' = 0 ∧ n = id ∧ j = 12 then w else if k' = 0 ∧ n = id ∧ (j = 15 ∨ j = 14 ∨ j = 13 ∨ j = 12 ∨ j = 11 ∨ j = 9) then 0 else if k' = 0 ∧ n = id ∧ j = 10 then c.1 11 0 10 else if k' = 0 ∧ n = id ∧ j = 6 then -1 else if k' = 11 ∧ n = 0 ∧ j = 13 then c.1 11 0 13 + 1 else if k' = 11 ∧ n = 0 ∧ j = 12 then c.1 11 0 12 + 1 else if k' = 11 ∧ n = 0 ∧ j = 11 then c.1 11 0 11 + 1 else if k' = 8 ∧ n = t ∧ j = 2 then 2 else c.1 k' n j := fun k' n j => by
    have u1 : ∀ j, (sI c 8 t 2 2).1 11 0 j = c.1 11 0 j := fun j => rI_o (by omega)
    rw [C1, c_new_I, u1, u1, u1, u1, rI_I]
  have nc : n_c c C id e w (c.1 11 0 10) none (some t) := by
    refine ⟨⟨?_, ?_, ?_, ?_, ?_, ?_, ?_⟩, ⟨?_, ?_, ?_, ?_, ?_, ?_⟩, fun i z j => ⟨?_, ?_, ?_⟩, fun y => ⟨?_, ?_, ?_, (fun q => by cases q), fun _ => ?_⟩, fun u => ⟨fun q => ⟨?_, ?_⟩, fun q => ⟨?_, ?_⟩⟩, fun r j => ?_⟩
    all_goals first
      | (rw [CI]; simp; done)
      | (rw [CR, c_new_R]; simp; done)
      | (rw [CR, c_new_R]; simp [rI_R]; done)
      | (rw [CI]; simp [z]; done)
      | (rw [CR, c_new_R]; simp [z, rI_R]; done)
      | (rw [CL, c_new_L]; simp [z, rI_L]; done)
      | (cases q; rw [CI]; simp; done)
      | (cases q; rw [CR]; simp; done)
      | (have q2 : u ≠ t := fun w => q (by rw [w])
         rw [CI]; simp [q2]; done)
      | (have q2 : u ≠ t := fun w => q (by rw [w])
         rw [CR, c_new_R]; simp [q2, rI_R]; done)
  have mnow : (sI m 154 0 t 2).1 12 0 2 = c.1 11 0 10 := by rw [rI_o (by omega)]; exact hnow
  have nm : n_m f' m M id e w (c.1 11 0 10) (100 + k) none (some t) := by
    refine ⟨⟨?_, ?_, ?_, ?_, ?_, ?_, ?_, ?_, ?_, ?_⟩, fun k' a b d j z => ?_, fun s z j hj => ?_, fun j => ⟨?_, ?_, ?_⟩, fun y => ⟨(fun q => by cases q), fun _ => ?_⟩, fun u => ⟨fun q => ⟨?_, ?_⟩, fun q => ⟨?_, ?_⟩⟩⟩
    all_goals first
      | (rw [MI _ _ _ (by decide), M0I, m_new_I]; simp; done)
      | (rw [MI _ _ _ (by decide), M0I, m_new_I]; simp [mnow]; done)
      | (rw [MI _ _ _ (by decide), M0I, m_new_I]; simp [rI_I]; done)
      | (cases q; rw [MI _ _ _ (by decide), M0I, m_new_I]; simp [rI_I]; done)
      | (have q2 : u ≠ t := fun w => q (by rw [w])
         rw [MI _ _ _ (by decide), M0I, m_new_I]; simp [q2, rI_I]; done)
      | (rw [MI _ _ _ d, M0I, if_neg (by omega), if_neg (by omega), if_neg (by omega), m_new_I, if_neg (by omega), if_neg (by omega), if_neg (by omega), if_neg (by omega), if_neg (by omega), if_neg (by omega), if_neg (by omega), if_neg (by omega), rI_o (by omega)]; done)
      | (rw [y3, if_neg (by omega), M0I, if_neg (by omega), if_neg (by omega), if_neg (by omega), m_new_I, if_neg (by omega), if_neg (by omega), if_neg (by omega), if_neg (by omega), if_neg (by omega), if_neg (by omega), if_neg (by omega), if_neg (by omega), rI_o (by omega)]; done)
  have tn := t_new (zd := id) hf' ⟨i0, i1⟩ hd he hw nc nm (Or.inr ⟨rfl, by congr 1; omega, by omega, by omega, hN, by rw [show 16 * e + (100 + k) - 100 = t by omega]; exact h3⟩) (by rcases hY with q | q; exact Or.inl q; exact Or.inr (by rw [q])) (fun q => absurd rfl q) R2.2.2.1
  have so1 : so w_n c C := by rw [hC]; unfold c_new; exact so_L (so_I (so_R (so_R (so_I (so_I (so_I (so_I (so_I (so_I (so_I (so_L (so_R (so_I (so_R (so_R (so_R (so_R (so_R (so_R (so_I (so_I (so_I (so_I (so_rfl c) rfl _ _) rfl _ _) rfl _ _) rfl _ _) rfl _ _) rfl _ _) rfl _ _) rfl _ _) rfl _ _) rfl _ _) rfl _ _) rfl _ _) rfl _ _) rfl _ _) rfl _ _) rfl _ _) rfl _ _) rfl _ _) rfl _ _) rfl _ _) rfl _ _) rfl _ _) rfl _ _) rfl _ _
  have so2 : so w_D c C := by rw [hC]; unfold c_new; exact so_L (so_I (so_R (so_R (so_I (so_I (so_I (so_I (so_I (so_I (so_I (so_L (so_R (so_I (so_R (so_R (so_R (so_R (so_R (so_R (so_I (so_I (so_I (so_I (so_rfl c) rfl _ _) rfl _ _) rfl _ _) rfl _ _) rfl _ _) rfl _ _) rfl _ _) rfl _ _) rfl _ _) rfl _ _) rfl _ _) rfl _ _) rfl _ _) rfl _ _) rfl _ _) rfl _ _) rfl _ _) rfl _ _) rfl _ _) rfl _ _) rfl _ _) rfl _ _) rfl _ _) rfl _ _
  have sm0 : so w_nm m M0 := by rw [hM0]; unfold m_new; exact so_I (so_I (so_I (so_I (so_I (so_I (so_I (so_I (so_I (so_I (so_I (so_I (so_I (so_I (so_I (so_I (so_I (so_rfl m) rfl _ _) rfl _ _) rfl _ _) rfl _ _) rfl _ _) rfl _ _) rfl _ _) rfl _ _) rfl _ _) rfl _ _) rfl _ _) rfl _ _) rfl _ _) rfl _ _) rfl _ _) rfl _ _) rfl _ _
  have sm1 : so w_DM m M0 := by rw [hM0]; unfold m_new; exact so_I (so_I (so_I (so_I (so_I (so_I (so_I (so_I (so_I (so_I (so_I (so_I (so_I (so_I (so_I (so_I (so_I (so_rfl m) rfl _ _) rfl _ _) rfl _ _) rfl _ _) rfl _ _) rfl _ _) rfl _ _) rfl _ _) rfl _ _) rfl _ _) rfl _ _) rfl _ _) rfl _ _) rfl _ _) rfl _ _) rfl _ _) rfl _ _
  have som : ∀ {w : Nat → Int → Bool}, (∀ j, w 139 j = true) → so w M0 M := fun hw k' n j q => ⟨by rw [y3, if_neg (fun z => by rw [z.1, hw] at q; cases q)], by rw [y2], by rw [y2]⟩
  have sm2 : so w_nm m M := so_tr sm0 (som (fun _ => rfl))
  have sm3 : so w_DM m M := so_tr sm1 (som (fun _ => rfl))
  have RR := rel_new hf' (z1' := -1) (z2' := -1) (X' := -1) (sec' := none) (Y' := -1) (zd' := id) R2 hh ⟨i0, i1⟩ hd hm h40 nc nm ⟨by rw [CI]; simp, by rw [CI]; simp, by rw [CI]; simp⟩ (by rw [MI _ _ _ (by decide), M0I, m_new_I]; simp [rI_I]) (by rw [MI _ _ _ (by decide), M0I, m_new_I]; simp [rI_I]) tn
    (r_l_cg (fun k' n j q => by simp [rlC] at q; rw [CI, if_neg (by omega), if_neg (by omega), if_neg (by omega), if_neg (by omega), if_neg (by omega), if_neg (by omega), if_neg (by omega), if_neg (by omega)]) (fun k' n j q => by simp [rlM] at q; rw [MI _ _ _ (by omega), M0I, if_neg (by omega), if_neg (by omega), if_neg (by omega), m_new_I, if_neg (by omega), if_neg (by omega), if_neg (by omega), if_neg (by omega), if_neg (by omega), if_neg (by omega), if_neg (by omega), if_neg (by omega), rI_o (by omega)]) R2.2.1)
    so1 sm2
  have RL := rel_up RR (Int.le_refl _) hh
  have a9 := nc.1.2.1
  have vC : lv C id := ⟨i0, i1, by rw [a9]; decide⟩
  have b135 := nm.1.2.1
  have m140 : M.1 140 0 (f' id) = (K.length : Int) := by rw [MI _ _ _ (by decide), M0I, if_pos ⟨rfl, rfl, rfl⟩]
  have kR : k_R (C.2.1 0 id 8) (M.1 140 0 (f' id)) (fun j => M.1 139 0 (12 * f' id + j)) := by
    refine ⟨K, hK, by rw [CL, if_pos ⟨rfl, rfl, rfl⟩], m140, fun j hj => ?_⟩
    show M.1 139 0 (12 * f' id + j) = _
    rw [y3, if_pos (by omega), M168, ← c4 j hj]
    exact cgI _ _ _ (by omega)
  obtain ⟨r, r', a1, a2, a3⟩ := p_analyse RL.2.2.2.2.2.2.2.2.1 he hs b135 kR
  have E1 : F11_takeIam_63 (some e) (some t) x c = (F1_analyse e (C.2.1 0 id 8) C).bind (fun q12 => if 0 ≤ q12.1 then g_ ((0 : Int) ≤ q12.1 ∧ q12.1 < (24 : Int)) (lt_ (sR q12.2 0 id 7 (q12.2.2.2 22 e q12.1)) (fun h13 => (F11_place (some id) (-1) h13).bind (fun h14 => some h14))) else (F11_end (some id) 1 0 q12.2).bind (fun h15 => some h15)) := by
    unfold F11_takeIam_63
    rw [Option.bind_some, lt_d, ec, Option.bind_some]
    dsimp only
    rw [if_neg (by simp), lt_d, Option.bind_some, lt_d, xw, Option.bind_some, lt_d, xk, Option.bind_some, lt_d, Option.bind_some, ← hC]
  have E3 : F12_incoming e m = if 0 ≤ r' then (F12_placesN 8 (f' id) r' M).bind (fun h2 => some h2) else (F12_over (f' id) 1 (-1) M).bind (fun h3 => some h3) := by
    rw [E2]
    unfold F12_incoming_68b
    rw [g_t (by omega), if_pos (by rw [MI _ _ _ (by decide), M168, c3]; omega), a2, Option.bind_some]
  rw [E1, E3, a1, Option.bind_some]
  dsimp only
  by_cases z : r < 0
  · rw [if_neg (show ¬ 0 ≤ r by omega), if_neg (show ¬ 0 ≤ r' by omega)]
    obtain ⟨c', m', e1, e2, e3, e4, e5⟩ := p_bad (o := 1) hf' (by omega) (by omega) vC RL
    rw [f_bad (by decide)] at e1
    exact ⟨f', c', m', hf', e1, e2, rel_mono (by omega) e3, so_tr so2 (so_mono w_j1 e4), so_tr sm3 (so_mono w_j2 e5)⟩
  · obtain ⟨r0, r1, r2, r3⟩ : 0 ≤ r ∧ r < M.1 105 0 e ∧ r' = 24 * e + r ∧ M.1 108 0 r' = M.1 140 0 (f' id) := by omega
    obtain ⟨p1, p2, p3, p4⟩ := RL.2.2.2.2.2.2.2.2.1 e he
    have p5 := (p4 r' (by omega) (by omega)).1
    rw [show r' - 24 * e = r by omega] at p5
    rw [if_pos r0, if_pos (show 0 ≤ r' by omega), g_t (by omega), lt_d, p5]
    have R3 := rel_rr (id := id) hf' (some r') (by rw [a9]; decide) RL
    have cR3 : ∀ j, j ≠ 7 → (sR C 0 id 7 (some r')).2.2 0 id j = C.2.2 0 id j := fun j q => by rw [rR_R, if_neg (by omega)]
    obtain ⟨c', m', e1, e2, e3, e4, e5⟩ := p_place (id := id) hf' (by omega) 8 j_fu (sR C 0 id 7 (some r')) M 0 r' ⟨R3, ⟨vC.1, vC.2.1, vC.2.2⟩, nm.1.2.2.2.1, by rw [cR3 5 (by decide)]; exact nc.2.1.2.2.2.2.2, kR, by rw [rR_I, nc.1.2.2.2.2.1]; exact hw.2⟩
      ⟨by rw [rR_R, if_pos ⟨rfl, rfl, rfl⟩], by rw [b135]; omega, by rw [b135]; omega, r3⟩ (fun q => absurd (by rw [cR3 1 (by decide)]; exact nc.2.1.2.1) q) (by rw [rR_I, a9]; decide) nm.1.2.2.2.2.1 (by omega) (by rw [rR_I, nc.1.2.2.2.2.1]; omega) (by rw [rR_I, nc.1.2.2.2.2.1]; omega) (by unfold j_fu; omega)
    refine ⟨f', c', m', hf', ?_, by rw [e2, Option.bind_some], rel_mono (by omega) e3, so_tr so2 (so_tr (so_R (so_rfl C) rfl _ _) (so_mono w_j1 e4)), so_tr sm3 (so_mono w_j2 e5)⟩
    unfold F11_place
    rw [e1, Option.bind_some]
/-- a circuit taken from both ends: the call goes on over another, or is over -/
theorem p_coll {i t : Int} (hf : f_ok f) (hB : B + 100 < 2000000000) (ht : 0 ≤ t ∧ t < 32) (o : c.1 8 t 2 = 1) (q1 : c.2.2 8 t 3 = some i) (q2 : lv c i) (s : c.1 0 i 9 = 1) (q3 : c.2.2 0 i 4 = some t) (R : relN f N B H c m) :
    ∃ c' m', F11_place (some i) (-1) (sR (sR c 8 t 3 none) 0 i 4 none) = some c' ∧ F12_toFar (f i) (sI (sI (sI m 154 0 t 2) 155 0 t (-1)) 137 0 (f i) (-1)) = some m' ∧ rel f N (-1) (-1) (-1) none t (-1) (B + 6) H c' m' ∧ so w_C c c' ∧ so w_M m m' := by
  have Rz := rel_zn R i
  have tk := t_coll (id := i) (t := t) hf q2 ht o q1 s q3 Rz.2.2.1
  have sc : so w_h c (sR (sR c 8 t 3 none) 0 i 4 none) := so_R (so_R (so_rfl c) rfl _ _) rfl _ _
  have sm : so w_hm m (sI (sI (sI m 154 0 t 2) 155 0 t (-1)) 137 0 (f i) (-1)) := so_I (so_I (so_I (so_rfl m) rfl _ _) rfl _ _) rfl _ _
  have st := R.2.2.1.1 i q2.1 q2.2.1
  have R1 := rel_h hf Rz tk sc sm (fun n => by simp [rR_I, rR_R]) (fun u _ _ => by
    by_cases z : u = f i
    · subst z; simp [rI_I, st.1, s]
    · simp [rI_I, z])
  have i0 := q2.1
  have ky := R.2.2.1.2.2.2.2.2.2.1 i q2 (by omega)
  have k1 := R.2.2.1.2.2.2.2.2.2.2.1 i q2 (by omega)
  have gp := R.2.2.1.2.2.2.2.2.1 i q2
  have zn := R.2.2.1.2.2.2.2.2.2.2.2.2.2.2.2.1 i q2
  obtain ⟨r, r1, r2, r3, r4, r5, r6, r7, r8⟩ := R.2.2.1.2.2.2.2.2.2.2.2.2.2.2.2.2.1 i q2 s
  generalize hC : sR (sR c 8 t 3 none) 0 i 4 none = C at *
  generalize hM : sI (sI (sI m 154 0 t 2) 155 0 t (-1)) 137 0 (f i) (-1) = M at *
  have CI : ∀ k n j, C.1 k n j = c.1 k n j := fun k n j => by rw [← hC]; rfl
  have CL : ∀ k n j, C.2.1 k n j = c.2.1 k n j := fun k n j => by rw [← hC]; rfl
  have CR : ∀ j, j ≠ 4 → C.2.2 0 i j = c.2.2 0 i j := fun j q => by rw [← hC, rR_R, rR_R, if_neg (by omega), if_neg (by omega)]
  have MI : ∀ k j, k ≠ 137 → k ≠ 154 → k ≠ 155 → M.1 k 0 j = m.1 k 0 j := fun k j a b d => by rw [← hM, rI_o (by omega), rI_o (by omega), rI_o (by omega)]
  have vC : lv C i := ⟨i0, q2.2.1, by rw [CI]; exact q2.2.2⟩
  have hr7 : C.2.2 0 i 7 = some r := by rw [CR 7 (by decide)]; exact r1
  obtain ⟨out, c1, l1, l2⟩ := p_far (r := r) hf (by omega) vC R1 (by rw [← hM, rI_s]) (by
      rw [CR 5 (by decide)]
      rcases gp with ⟨_, g⟩ | ⟨_, _, g, _⟩
      · exact g (by omega) (by omega)
      · omega) (by
      obtain ⟨K, a1, a2, a3, a4⟩ := ky
      exact ⟨K, a1, by rw [CL]; exact a2, by rw [MI 140 _ (by decide) (by decide) (by decide)]; exact a3, fun j hj => by
        show M.1 139 0 (12 * f i + j) = _
        rw [MI 139 _ (by decide) (by decide) (by decide)]; exact a4 j hj⟩) (by rw [CI]; exact k1.2) (by
      rw [CR 1 (by decide), CI, MI 143 _ (by decide) (by decide) (by decide)]
      intro q
      rcases zn q with ⟨_, g⟩ | ⟨g1, g2, g3, _⟩
      · omega
      · exact ⟨g1, g2, g3⟩) (by
      rw [CI, CI, MI 135 _ (by decide) (by decide) (by decide), MI 105 _ (by decide) (by decide) (by decide), MI 142 _ (by decide) (by decide) (by decide), MI 141 _ (by decide) (by decide) (by decide), MI 140 _ (by decide) (by decide) (by decide)]
      exact ⟨hr7, r2, r3, r4, r5, r6, r7, r8⟩)
  have step : F11_place (some i) (-1) C = F11_place_5 (99998 + 1) (some i) out 1 c1 := by
    show F11_place_5b (F11_place_5 (99998 + 1)) (some i) (-1) 0 C = _
    unfold F11_place_5b F11_place_135
    rw [if_neg (by decide), Option.bind_some, if_neg (by decide), if_pos rfl, hr7, if_neg (by simp), Option.bind_some, CI, if_neg (by omega), if_neg (by omega), if_neg (by omega), l1, Option.bind_some]
    rfl
  rw [step]
  rcases l2 with ⟨rfl, g2, m', g3, g4, g5, g6⟩ | ⟨g1, g2, rfl, g4⟩
  · refine ⟨c1, m', ?_, g3, rel_mono (by omega) g4, so_tr (rw_C sc) g5, so_tr (rw_M sm) g6⟩
    rw [f_out 99998 (by decide) (by decide)]
    unfold F11_place_141 F11_place_173
    rw [if_neg (by simp), if_pos rfl, Option.bind_some, if_pos g2, if_pos (by simp)]
  · obtain ⟨c', m', e1, e2, e3, e4, e5⟩ := p_bad hf (by omega) ⟨g1, g2⟩ vC R1
    exact ⟨c', m', by rw [f_out 99998 (by omega) (by omega)]; exact e1, by rw [g4]; exact e2, rel_mono (by omega) e3, so_tr (rw_C sc) e4, so_tr (rw_M sm) e5⟩
theorem p_iam (hf : f_ok f) (hB : B + 200 < 2000000000) {h : Int} (hh : h + 1 ≤ 72) {e k w x : Int} {K : List Nat} (he : e = 0 ∨ e = 1) (hk : 0 ≤ k ∧ k < N) (hK : k_ok K) (hw : 0 ≤ w ∧ w ≤ 5)
    (xw : ∀ q : JM, F9_forwardsOf x q = some (w, q)) (xk : ∀ q : JM, F9_keysOf x q = some ((k_P K : Int), q))
    (c0 : m.1 168 0 0 = k) (h1 : m.1 168 0 1 = 1) (c2 : m.1 168 0 2 = w) (c3 : m.1 168 0 3 = (K.length : Int)) (c4 : ∀ j : Nat, j < K.length → m.1 168 0 (4 + j) = (K.getD j 0 : Int)) (R : relN f N B (h, aL) c m) :
    ∃ f' c' m', f_ok f' ∧ F11_takeIam (some e) (some (16 * e + k)) x c = some c' ∧ F12_comes_44 e (16 * e + k) (m.1 155 0 (16 * e + k)) (if m.1 154 0 (16 * e + k) = 1 then 1 else 0) m = some m' ∧ relN f' N (B + 20) (h + 1, aL) c' m' ∧ so w_D c c' ∧ so w_DM m m' := by
  obtain ⟨t0, t1, t2⟩ := k_cr he hk R.1
  obtain ⟨t, ht⟩ : ∃ t, t = 16 * e + k := ⟨_, rfl⟩
  rw [← ht] at t0 t1 t2 ⊢
  have hN := R.1.2.2.2.1
  have b1 := R.2.2.1.2.2.2.2.2.2.2.2.2.2.2.2.2.2.2.2.2.2.2.2.2.2.2.2.2.2.1 t t0 t1 (by omega)
  have hnum : c.1 1 e 0 = e := (R.1.2.2.2.2.2.2.2.2.2.2.1 e he).2
  have RU : relN f N (B + 20) (h + 1, aL) c m := rel_mono (by omega) (rel_up R (by omega) hh)
  have jr : j_rem k 2 = k % 2 := i_rem hk.1 (by omega) (by decide) (by decide)
  unfold F11_takeIam F12_comes_44
  rw [Option.bind_some, g_t (by omega), h1, if_pos rfl]
  by_cases o : c.1 8 t 2 = 1
  · obtain ⟨i, q1, q2, q3, q4, q5, q6, q7⟩ := k_out ⟨t0, t1⟩ o R
    have hfr := hf.2.2.1 i q2.1 (by have := q2.2.1; omega)
    have n55 : F11_takeIam_55 (some e) (some t) x c = some c := by
      unfold F11_takeIam_55
      rw [Option.bind_some, if_neg (by omega)]
    have n148 : F12_comes_148 e t m = some m := by
      unfold F12_comes_148
      rw [g_t ⟨t0, t1⟩, if_neg (by omega)]
    have es : F8_isSent t c = some (if c.1 0 i 9 = 1 then 1 else 0, c) := by
      unfold F8_isSent F8_isSent_22
      rw [q1, if_neg (by simp), Option.bind_some]
      split <;> rfl
    rw [if_pos o, es, Option.bind_some, b1, if_pos o, if_neg (show ¬ ((1 : Int) = 0) by decide), q4, g_t hfr, q5]
    dsimp only
    by_cases s : c.1 0 i 9 = 1
    · rw [if_pos s, if_neg (show ¬ ((1 : Int) = 0) by decide), Option.bind_some, if_pos s, t2, hnum, jr, g_t (by omega), c0, jr]
      by_cases z : k % 2 = e
      · rw [if_pos z, if_pos z, n55, n148]
        exact ⟨f, c, m, hf, rfl, rfl, RU, so_rfl c, so_rfl m⟩
      · rw [if_neg z, if_neg z, g_t ⟨t0, t1⟩, lt_d, q1, Option.bind_some, lt_d, lt_d, g_t ⟨t0, t1⟩, lt_d, g_t hfr, lt_d]
        obtain ⟨c1, m1, e1, e2, e3, e4, e5⟩ := p_coll hf (by omega) ⟨t0, t1⟩ o q1 q2 s q3 R
        have m168 : ∀ j, m1.1 168 0 j = m.1 168 0 j := fun j => (e5 168 0 j rfl).1
        have ty := e3.2.2.1.2.2.2.2.2.2.2.2.2.2.2.2.2.2.2.2.2.2.2.2.2.2.2.2.2.2.2.2.2.2.2.1 t0
        obtain ⟨f', c', m', g0, g1, g2, g3, g4, g5⟩ := p_inc (x := x) (w := w) (K := K) hf (by omega) hh he hk ht hK hw xw xk (by rw [m168]; exact c0) (by rw [m168]; exact c2) (by rw [m168]; exact c3) (fun j hj => by rw [m168]; exact c4 j hj) (Or.inr rfl) ty.2.2.1 e3
        refine ⟨f', c', m', g0, ?_, ?_, rel_mono (by omega) g3, so_tr (so_mono w_j1 e4) g4, so_tr (so_mono w_j2 e5) g5⟩
        · rw [e1, Option.bind_some, g1]
        · rw [e2, Option.bind_some, g2, Option.bind_some]
    · rw [if_neg s, if_pos rfl, if_neg s, n55, n148]
      exact ⟨f, c, m, hf, rfl, rfl, RU, so_rfl c, so_rfl m⟩
  · rw [if_neg o, b1, if_neg o, if_pos rfl]
    unfold F11_takeIam_55 F12_comes_148
    rw [Option.bind_some, g_t ⟨t0, t1⟩, b1]
    by_cases z : c.1 8 t 2 = 0
    · rw [if_pos z, if_pos z]
      have h3 : c.2.2 8 t 3 = none := by
        rcases R.2.2.1.2.2.2.2.2.2.2.2.2.2.2.2.2.2.2.2.2.2.2.2.2.2.2.2.2.2.2.2.1 t t0 t1 (by omega) with ⟨_, g⟩ | ⟨i, _, _, g⟩
        · exact g
        · omega
      obtain ⟨f', c', m', g0, g1, g2, g3, g4, g5⟩ := p_inc (x := x) (w := w) (K := K) hf (by omega) hh he hk ht hK hw xw xk c0 c2 c3 c4 (Or.inl rfl) h3 R
      exact ⟨f', c', m', g0, g1, by rw [g2, Option.bind_some], rel_mono (by omega) g3, g4, g5⟩
    · rw [if_neg z, if_neg z]
      exact ⟨f, c, m, hf, rfl, rfl, RU, so_rfl c, so_rfl m⟩
end SL
