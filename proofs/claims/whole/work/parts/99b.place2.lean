/-! ===== placing: far, to a group, to a room ===== -/
theorem ex_ (a b c d : Nat) : ((1 * a + b + (c + d) : Nat) : Int) = ((a + b + c + d : Nat) : Int) := by omega
section RS
variable {f : Int → Int} {N z1 z2 X : Int} {sec : Option Int} {Y zd : Int} {c m c' m' : JM} {B B' : Int} {H : HT}
/-- it goes out by circuit k -/
theorem p_go (hf : f_ok f) (hB : B + 2 < 2000000000) {id r k : Int} (hv : lv c id) (R : rel f N (-1) (-1) (-1) none Y id B H c m) (h7 : m.1 137 0 (f id) = -1) (hg : c.2.2 0 id 5 = none) (hky : k_R (c.2.1 0 id 8) (m.1 140 0 (f id)) (fun j => m.1 139 0 (12 * f id + j))) (hfw : c.1 0 id 12 ≤ 5) (hzn : c.2.2 0 id 1 ≠ none → m.1 143 0 (f id) = c.1 0 id 11 ∧ 0 ≤ c.1 0 id 11 ∧ c.1 0 id 11 ≤ 3)
    (hr : c.2.2 0 id 7 = some r ∧ 24 * m.1 135 0 (f id) ≤ r ∧ r < 24 * m.1 135 0 (f id) + m.1 105 0 (m.1 135 0 (f id)) ∧ c.1 6 r 2 = m.1 142 0 (f id) ∧ (m.1 142 0 (f id) = 1 ∨ m.1 142 0 (f id) = 2) ∧ c.1 6 r 3 = m.1 141 0 (f id) ∧ 0 ≤ m.1 141 0 (f id) ∧ m.1 141 0 (f id) ≤ m.1 140 0 (f id)) (hk : 0 ≤ k ∧ k < N ∧ c.1 8 (16 * m.1 135 0 (f id) + k) 2 = 0) :
    ∃ c1 m', (∀ t, t = 16 * m.1 135 0 (f id) + k → ((F11_enter (some id) 1 (sR (sR (sI c 8 t 2 1) 8 t 3 (some id)) 0 id 4 (some t))).bind (fun h8 => (F11_withoutFirst (h8.2.1 0 id 8) (h8.1 6 r 3) h8).bind (fun q10 => (F9_packIam (h8.1 0 id 12) q10.1 q10.2).bind (fun q11 => (q11.2.2.2 0 id 0).bind (fun a12 => (F9_pack 1 (q11.2.1 8 t 0) q11.1 q11.2).bind (fun q13 => (F5_post a12 q13.1 q13.2).bind (fun h14 => some ((0 : Int), h14)))))))) = some (0, c1)) ∧ F12_toFar_156 (f id) (m.1 135 0 (f id)) k m = some m' ∧ c1.1 0 id 9 = 1 ∧ rel f N (-1) (-1) (-1) none Y (-1) (B + 1) H c1 m' ∧ so w_C c c1 ∧ so w_M m m' := by
  have hfr := hf.2.2.1 id hv.1 (by have := hv.2.1; omega)
  obtain ⟨s1, s2, s3, s4⟩ := sd_of hv R h7
  have hnow : m.1 12 0 2 = c.1 11 0 10 := R.1.2.2.2.2.2.2.2.1
  have hN := R.1.2.2.2.1
  have b_st := R.2.2.1.1 id hv.1 hv.2.1
  have b_hm := R.2.2.1.2.2.1 id hv
  have b_fw := R.2.2.1.2.2.2.2.2.2.2.2.1 id hv
  generalize he : m.1 135 0 (f id) = e at *
  generalize ht : 16 * e + k = t at *
  have hk8 := (R.1.2.2.2.2.2.2.2.2.2.2.2.2 e k b_hm.2 hk.1 hk.2.1).1
  rw [ht] at hk8
  obtain ⟨K, hK, k1, k2, k3⟩ := hky
  have hK1 := hK.1
  obtain ⟨r1, r2, r3, r4, r5, r6, r7, r8⟩ := hr
  obtain ⟨a, ha⟩ := Int.eq_ofNat_of_zero_le r7
  obtain ⟨w, hw⟩ := Int.eq_ofNat_of_zero_le b_fw.2.1
  obtain ⟨kn, hkn⟩ := Int.eq_ofNat_of_zero_le hk.1
  have ha12 : a ≤ K.length := by omega
  -- the class's words
  generalize hC : sI (sI (sR (sR (sI c 8 t 2 1) 8 t 3 (some id)) 0 id 4 (some t)) 0 id 9 1) 0 id 10 (c.1 11 0 10) = C at *
  have C8 : C.2.1 0 id 8 = (k_P K : Int) := by rw [← hC]; simp only [rI_L, rR_L]; exact k1
  have C6 : C.1 6 r 3 = (a : Int) := by rw [← hC]; simp [rI_I, rR_I]; rw [r6, ha]
  have C12 : C.1 0 id 12 = (w : Int) := by rw [← hC]; simp [rI_I, rR_I]; exact hw
  have C0 : C.2.2 0 id 0 = some e := by rw [← hC]; simp [rI_R, rR_R]; exact b_hm.1
  have C80 : C.1 8 t 0 = (kn : Int) := by rw [← hC]; simp [rI_I, rR_I]; omega
  have eC : F11_enter (some id) 1 (sR (sR (sI c 8 t 2 1) 8 t 3 (some id)) 0 id 4 (some t)) = some C := by
    unfold F11_enter
    rw [← hC]
    simp only [Option.bind_some, lt_d]
    simp [rI_I, rR_I]
  have hK2 : k_ok (K.drop a) := k_okd hK a
  have hP := k_P_lt hK2
  have hw5 : w ≤ 5 := by omega
  have hx0 : w * 2 ^ 52 + k_P (K.drop a) < 2 ^ 55 := by
    have : w * 2 ^ 52 ≤ 5 * 2 ^ 52 := Nat.mul_le_mul_right _ hw5
    omega
  have q1 := f_withoutFirst hK a (by omega) C
  have q2 := f_packIam (w := w) (by omega) hK2 C
  have q3 := f_pack (ty := 1) (k := kn) (a := w * 2 ^ 52 + k_P (K.drop a)) (by decide) (by omega) hx0 C
  obtain ⟨x, q3, hmg⟩ : ∃ x, F9_pack ((1 : Nat) : Int) kn ((w * 2 ^ 52 + k_P (K.drop a) : Nat) : Int) C = some (x, C) ∧ mg (kn :: 1 :: w :: (K.drop a).length :: K.drop a) x := ⟨_, q3, Or.inr (Or.inr ⟨kn, w, K.drop a, by omega, hw5, hK2, rfl, ex_ _ _ _ _⟩)⟩
  -- the reference's words
  have w1 : w32 (16 * e) = 16 * e := w32_of (by omega) (by omega)
  have w2 : w32 (16 * e + k) = t := by rw [ht]; exact w32_of (by omega) (by omega)
  have w3 : w32 (100 + k) = 100 + k := w32_of (by omega) (by omega)
  have w4 : w32 (m.1 140 0 (f id) - m.1 141 0 (f id)) = m.1 140 0 (f id) - m.1 141 0 (f id) := w32_of (by omega) (by omega)
  have ht2 : 0 ≤ t ∧ t < 32 := by omega
  generalize hM1 : sI (sI (sI m 137 0 (f id) (100 + k)) 154 0 t 1) 155 0 t (f id) = M1 at *
  have u1 : (m_beg M1 k 1).1 12 0 57 = 2 := by simp [m_beg, rI_I]
  have u2 : ∀ v : Int, (sI (sI (m_beg M1 k 1) 12 0 57 3) 156 0 2 v).1 12 0 57 = 3 := fun v => by simp [rI_I]
  have u3 : (sI (m_beg M1 k 1) 12 0 57 3).1 144 0 (f id) = (w : Int) := by
    rw [← hM1]; simp [m_beg, rI_I]; omega
  have u4 : M1.1 140 0 (f id) = m.1 140 0 (f id) ∧ M1.1 141 0 (f id) = m.1 141 0 (f id) := by rw [← hM1]; simp [rI_I]
  generalize hn : m.1 140 0 (f id) - m.1 141 0 (f id) = n at *
  have hn2 : n = ((K.drop a).length : Int) := by rw [List.length_drop]; omega
  have e156 : F12_toFar_156 (f id) e k m = F12_toFar_258 j_fu (f id) e n 0 (sI (sI (sI (sI (m_beg M1 k 1) 12 0 57 3) 156 0 2 (w : Int)) 12 0 57 4) 156 0 3 n) := by
    unfold F12_toFar_156
    rw [w1, w2, w3, g_t hfr, lt_d, g_t ht2, lt_d, g_t ht2, lt_d, hM1, g_t hfr, g_t hfr, lt_d, f_begins, Option.bind_some, lt_d, g_t hfr, u4.1, u4.2, hn, w4, u1, g_t (by decide), show w32 ((2 : Int) + 1) = 3 by decide, u3, lt_d, lt_d, u2, g_t (by decide), show w32 ((3 : Int) + 1) = 4 by decide, lt_d]
  obtain ⟨h', y1, y2, y3⟩ := m_far258 (s := f id) (e := e) (n := n) (sf := m.1 141 0 (f id)) hfr (by omega) (by omega) j_fu 0 (sI (sI (sI (sI (m_beg M1 k 1) 12 0 57 3) 156 0 2 (w : Int)) 12 0 57 4) 156 0 3 n) (by omega) (by omega) (by unfold j_fu; omega) (by simp [rI_I]) (by rw [← hM1]; simp [m_beg, rI_I])
  have y4 : ∀ k' n' j', k' ≠ 156 → ¬ (k' = 12 ∧ j' = 57) → h'.1 k' n' j' = M1.1 k' n' j' := fun k' n' j' a1 a2 => by
    rw [y3, if_neg (by omega), if_neg (by omega)]
    simp only [m_beg, rI_I]
    rw [if_neg (by omega), if_neg (by omega), if_neg (by omega), if_neg (by omega), if_neg (by omega), if_neg (by omega), if_neg (by omega)]
  have hb : r_b h' (kn :: 1 :: w :: (K.drop a).length :: K.drop a) := by
    constructor
    · rw [y3, if_neg (by omega), if_pos ⟨rfl, rfl, rfl⟩, hn2]
      simp; omega
    · intro j hj
      rcases (by omega : j = 0 ∨ j = 1 ∨ j = 2 ∨ j = 3 ∨ 4 ≤ j) with rfl | rfl | rfl | rfl | h4
      · rw [y3]; simp [m_beg, rI_I]; omega
      · rw [y3]; simp [m_beg, rI_I]
      · rw [y3]; simp [m_beg, rI_I]
      · rw [y3]; simp [m_beg, rI_I]; omega
      · obtain ⟨i, rfl⟩ : ∃ i, j = i + 4 := ⟨j - 4, by omega⟩
        have hi : i < (K.drop a).length := by simp at hj ⊢; omega
        have hi2 : a + i < K.length := by simp at hi; omega
        rw [y3, if_pos ⟨rfl, rfl, by omega, by omega⟩]
        have e1 : (sI (sI (sI (sI (m_beg M1 k 1) 12 0 57 3) 156 0 2 (w : Int)) 12 0 57 4) 156 0 3 n).1 139 0 (12 * f id + m.1 141 0 (f id) + (((i + 4 : Nat) : Int) - 4)) = m.1 139 0 (12 * f id + ((a + i : Nat) : Int)) := by
          rw [← hM1]; simp [m_beg, rI_I]; exact cgI _ _ _ (by omega)
        rw [e1]
        have := k3 (a + i) hi2
        simp only [] at this
        rw [this]
        simp [List.getElem?_drop]
  obtain ⟨c1, mm, p1, p2, p3, p4, p5, _⟩ := p_post (B := B) (c := C) (m := h') (e := e) (by omega) b_hm.2 (fun e' he' => r_m_cg (c := c) (m := m) (fun k' n' j' q => by rw [← hC]; rcases q with rfl | rfl <;> simp [rI_I, rI_L, rR_I, rR_L]) (fun k' n' j' q1 q2 => by rw [y4 k' n' j' (by omega) (by omega), ← hM1]; simp only [rI_I]; rw [if_neg (by omega), if_neg (by omega), if_neg (by omega)]) (R.2.2.2.1 e' he')) hmg hb
  have hmm : mm.1 12 0 2 = c.1 11 0 10 := by rw [(p5 12 0 2 rfl).1, y4 12 0 2 (by decide) (by omega), ← hM1]; simp [rI_I, hnow]
  have t := t_far (k := k) (t := t) (r := r) (nw := c.1 11 0 10) hf hv ⟨s1, s2, s3, by omega⟩ hzn hg (by rw [he]; exact ⟨ht.symm, hk.1, hk.2.1, hN, hk.2.2⟩) (by rw [he]; exact ⟨r1, r2, r3, r4, r5, r6, r7, r8⟩) R.2.2.1
  rw [hC, hM1] at t
  have sc : so w_h c C := by rw [← hC]; exact so_I (so_I (so_R (so_R (so_I (so_rfl c) rfl _ _) rfl _ _) rfl _ _) rfl _ _) rfl _ _
  have sm : so w_hm m (sI (sI M1 133 0 (f id) 1) 145 0 (f id) (c.1 11 0 10)) := by rw [← hM1]; exact so_I (so_I (so_I (so_I (so_I (so_rfl m) rfl _ _) rfl _ _) rfl _ _) rfl _ _) rfl _ _
  have R1 := rel_h hf R t sc sm (fun n' => by
    have := hv.2.2
    rw [← hC]
    simp only [rI_I, rI_R, rR_R, rR_I]
    by_cases z : n' = id
    · subst z; simp; omega
    · simp [z]) (fun s a b => by
    rw [← hM1]
    simp only [rI_I]
    by_cases z : s = f id
    · subst z
      have h3 : m.1 133 0 (f id) ≠ 3 ∧ m.1 133 0 (f id) ≠ -1 := by have := hv.2.2; omega
      simp [h3.1, h3.2]
    · simp [z])
  have sp : so w_msg (sI (sI M1 133 0 (f id) 1) 145 0 (f id) (c.1 11 0 10)) (sI (sI mm 133 0 (f id) 1) 145 0 (f id) (c.1 11 0 10)) := fun k' n' j' q => by
    have z := p5 k' n' j' (by simp [w_msg] at q; simp [w_goes]; omega)
    have z2 := y4 k' n' j' (by simp [w_msg] at q; omega) (by simp [w_msg] at q; omega)
    rw [z2] at z
    simp only [rI_I, rI_L, rI_R]
    refine ⟨by rw [z.1], ?_, ?_⟩
    · rw [z.2.1, y2, ← hM1]; rfl
    · rw [z.2.2, y2, ← hM1]; rfl
  have R2 : rel f N (-1) (-1) (-1) none Y id (B + 1) H c1 (sI (sI mm 133 0 (f id) 1) 145 0 (f id) (c.1 11 0 10)) := rel_post hf R1 p4 sp (by omega) (fun e' he' => r_m_cg (fun _ _ _ _ => ⟨rfl, rfl⟩) (fun k' n' j' q1 q2 => by simp only [rI_I]; rw [if_neg (by omega), if_neg (by omega)]) (p3 e' he'))
  have c19 : c1.1 0 id 9 = 1 := by rw [(p4 0 id 9 rfl).1, ← hC]; simp [rI_I]
  refine ⟨c1, sI (sI mm 133 0 (f id) 1) 145 0 (f id) (c.1 11 0 10), fun t' ht' => ?_, ?_, c19, rel_zd R2 (fun _ => ?_) (fun _ => ?_) (fun _ _ _ => ?_) (fun _ q => ?_) (fun _ q => by rw [c19] at q; cases q), so_tr (rw_C sc) (so_mono w_b3 p4), so_tr (rw_M sm) (so_mono w_b4 sp)⟩
  · subst ht'
    rw [eC, Option.bind_some, C8, C6, q1, Option.bind_some, C12, q2, Option.bind_some, C0, Option.bind_some, C80]
    dsimp only
    rw [show ((1 : Int)) = ((1 : Nat) : Int) from rfl, q3, Option.bind_some, p1, Option.bind_some]
  · rw [e156, y1, p2, Option.bind_some]
    unfold F12_becomes
    rw [g_t hfr, lt_d, g_t hfr, lt_d, Option.bind_some]
    have : (sI mm 133 0 (f id) 1).1 12 0 2 = c.1 11 0 10 := by rw [rI_o (by omega), hmm]
    rw [this]
  · refine ⟨K, hK, ?_, ?_, fun j hj => ?_⟩
    · rw [(p4 0 id 8 rfl).2.1, C8]
    · rw [(sp 140 0 _ rfl).1, ← hM1]; simp [rI_I]; exact k2
    · show (sI (sI mm 133 0 (f id) 1) 145 0 (f id) (c.1 11 0 10)).1 139 0 (12 * f id + j) = _
      rw [(sp 139 0 _ rfl).1, ← hM1]; simp [rI_I]; exact k3 j hj
  · exact ⟨fun q => (by rw [c19] at q; cases q), by rw [(p4 0 id 12 rfl).1, C12]; omega⟩
  · rw [(p4 0 id 5 rfl).2.2, ← hC]; simp [rI_R, rR_R, hg]
  · rw [c19] at q; omega
/-- a row to the other exchange -/
theorem p_far (hf : f_ok f) (hB : B + 2 < 2000000000) {id r : Int} (hv : lv c id) (R : rel f N (-1) (-1) (-1) none Y id B H c m) (h7 : m.1 137 0 (f id) = -1) (hg : c.2.2 0 id 5 = none) (hky : k_R (c.2.1 0 id 8) (m.1 140 0 (f id)) (fun j => m.1 139 0 (12 * f id + j))) (hfw : c.1 0 id 12 ≤ 5) (hzn : c.2.2 0 id 1 ≠ none → m.1 143 0 (f id) = c.1 0 id 11 ∧ 0 ≤ c.1 0 id 11 ∧ c.1 0 id 11 ≤ 3)
    (hr : c.2.2 0 id 7 = some r ∧ 24 * m.1 135 0 (f id) ≤ r ∧ r < 24 * m.1 135 0 (f id) + m.1 105 0 (m.1 135 0 (f id)) ∧ c.1 6 r 2 = m.1 142 0 (f id) ∧ (m.1 142 0 (f id) = 1 ∨ m.1 142 0 (f id) = 2) ∧ c.1 6 r 3 = m.1 141 0 (f id) ∧ 0 ≤ m.1 141 0 (f id) ∧ m.1 141 0 (f id) ≤ m.1 140 0 (f id)) :
    ∃ out c1, F11_placeFar (some id) (some r) c = some (out, c1) ∧ ((out = 0 ∧ c1.1 0 id 9 = 1 ∧ ∃ m', F12_toFar (f id) m = some m' ∧ rel f N (-1) (-1) (-1) none Y (-1) (B + 1) H c1 m' ∧ so w_C c c1 ∧ so w_M m m') ∨ (0 < out ∧ out < 256 ∧ c1 = c ∧ F12_toFar (f id) m = (F12_over (f id) out (-1) m).bind (fun h => some h))) := by
  have hfr := hf.2.2.1 id hv.1 (by have := hv.2.1; omega)
  have b_hm := R.2.2.1.2.2.1 id hv
  have b_sa := R.2.2.1.2.2.2.1 id hv
  have ht1 := R.2.2.1.2.2.2.2.2.2.2.2.2.2.2.2.2.2.2.2.2.2.2.2.2.2.2.2.2.2.1
  have hty := R.2.2.1.2.2.2.2.2.2.2.2.2.2.2.2.2.2.2.2.2.2.2.2.2.2.2.2.2.2.2.2.2.2.2.1
  have go := fun k hk => p_go (k := k) hf hB hv R h7 hg hky hfw hzn hr hk
  obtain ⟨K1, K2, K3, K4, K5, K6, K7, _, _, _, K8, _⟩ := R.1
  have hT : ∀ t, 0 ≤ t → t < 32 → (m.1 154 0 t = 0 ↔ c.1 8 t 2 = 0) := fun t a b => by
    by_cases z : t = Y
    · have := hty (by omega)
      rw [z]; omega
    · rw [ht1 t a b z]
  generalize hke : (if m.1 142 0 (f id) = 2 then 0 else c.1 11 0 1) = ke at *
  obtain ⟨n', a', b', l1, l2, l3, l4⟩ := far_loop (e := m.1 135 0 (f id)) (s := f id) (ke := ke) b_hm.2 ⟨K3, K4⟩ (K8 _ b_hm.2).1 (K8 _ b_hm.2).2 K2 hT N.toNat j_fu j_fu 0 0 none (-1) (by omega) (by omega) (by unfold j_fu; omega) (by unfold j_fu; omega) (by omega) (by omega) (Or.inl ⟨rfl, rfl, rfl⟩)
  have hke0 : 0 ≤ ke := by rw [← hke]; split <;> omega
  -- what comes behind the search
  have fi : F1_findIdle (m.1 135 0 (f id)) ke c = some (if n' ≤ ke then none else a', c) := l1
  have tf : F12_toFar (f id) m = F12_toFar_15b (fun _ _ _ _ _ _ => none) (f id) (m.1 135 0 (f id)) n' b' N m := by
    unfold F12_toFar
    rw [g_t hfr, lt_d]
    exact l2
  have c56 : F11_placeFar_56 (some id) (some r) (some (m.1 135 0 (f id))) ke c = if n' ≤ ke then some (3, c) else (F11_enter (some id) 1 (sR (sR (sI c 8 (16 * m.1 135 0 (f id) + b') 2 1) 8 (16 * m.1 135 0 (f id) + b') 3 (some id)) 0 id 4 (some (16 * m.1 135 0 (f id) + b')))).bind (fun h8 => (F11_withoutFirst (h8.2.1 0 id 8) (h8.1 6 r 3) h8).bind (fun q10 => (F9_packIam (h8.1 0 id 12) q10.1 q10.2).bind (fun q11 => (q11.2.2.2 0 id 0).bind (fun a12 => (F9_pack 1 (q11.2.1 8 (16 * m.1 135 0 (f id) + b') 0) q11.1 q11.2).bind (fun q13 => (F5_post a12 q13.1 q13.2).bind (fun h14 => some ((0 : Int), h14))))))) := by
    unfold F11_placeFar_56
    rw [Option.bind_some, fi, Option.bind_some]
    by_cases z : n' ≤ ke
    · rw [if_pos z, if_pos z, if_pos rfl]
    · rcases l4 with ⟨_, _, z3⟩ | ⟨z1, z2, z3, z4, z5⟩
      · omega
      · rw [if_neg z, if_neg z, z3, if_neg (by simp), Option.bind_some, lt_d, lt_d, Option.bind_some, lt_d]
        simp only [Option.bind_some]
  have t121 : F12_toFar_121 (f id) (m.1 135 0 (f id)) n' b' m = if n' ≤ ke then (F12_over (f id) 3 (-1) m).bind (fun h => some h) else F12_toFar_156 (f id) (m.1 135 0 (f id)) b' m := by
    unfold F12_toFar_121 F12_toFar_146
    rw [g_t hfr, K5]
    rcases hr.2.2.2.2.1 with q | q
    · rw [q, if_neg (by simp)] at hke
      rw [if_pos q]
      by_cases z : n' ≤ ke
      · rw [if_neg (by omega), if_pos z]
      · rw [if_pos (by omega), if_neg z]
    · rw [q, if_pos rfl] at hke
      rw [if_neg (by omega)]
      by_cases z : n' ≤ ke
      · rw [if_pos (by omega), if_pos z]
      · rw [if_neg (by omega), if_neg z]
  -- both behind the barring
  have fin : F11_placeFar (some id) (some r) c = F11_placeFar_56 (some id) (some r) (some (m.1 135 0 (f id))) ke c → F12_toFar (f id) m = F12_toFar_121 (f id) (m.1 135 0 (f id)) n' b' m → ∃ out c1, F11_placeFar (some id) (some r) c = some (out, c1) ∧ ((out = 0 ∧ c1.1 0 id 9 = 1 ∧ ∃ m', F12_toFar (f id) m = some m' ∧ rel f N (-1) (-1) (-1) none Y (-1) (B + 1) H c1 m' ∧ so w_C c c1 ∧ so w_M m m') ∨ (0 < out ∧ out < 256 ∧ c1 = c ∧ F12_toFar (f id) m = (F12_over (f id) out (-1) m).bind (fun h => some h))) := fun e1 e2 => by
    rw [e1, e2, c56, t121]
    by_cases z : n' ≤ ke
    · rw [if_pos z, if_pos z]
      exact ⟨3, c, rfl, Or.inr ⟨by omega, by omega, rfl, rfl⟩⟩
    · rw [if_neg z, if_neg z]
      rcases l4 with ⟨_, _, z3⟩ | ⟨z1, z2, z3, z4, z5⟩
      · omega
      · obtain ⟨c1, m', g1, g2, g3, g4, g5, g6⟩ := go b' ⟨z1, z2, z4⟩
        exact ⟨0, c1, g1 _ rfl, Or.inl ⟨rfl, g3, m', g2, g4, g5, g6⟩⟩
  have ke2 : m.1 142 0 (f id) = 2 → ke = 0 := fun q => by rw [← hke, if_pos q]
  have ke1 : m.1 142 0 (f id) = 1 → ke = c.1 11 0 1 := fun q => by rw [← hke, if_neg (by omega)]
  rcases hr.2.2.2.2.1 with q | q
  · have hz := ke1 q
    have r2 : c.1 6 r 2 = 1 := by rw [hr.2.2.2.1, q]
    rcases b_sa with ⟨a1, a2, a3, a4⟩ | ⟨a1, a2, a3, a4⟩
    · have e1 : F12_isLineSide (m.1 136 0 (f id)) m = some (1, m) := by
        unfold F12_isLineSide
        rw [if_neg (by omega), if_neg (by omega)]
      have hl : 0 ≤ m.1 136 0 (f id) ∧ m.1 136 0 (f id) < 16 := by omega
      obtain ⟨f1, _⟩ := R.2.2.2.2.2.2.2.2.2 (m.1 136 0 (f id)) 1 hl.1 hl.2 (by omega) (by omega)
      have w1 : w32 (3 * m.1 136 0 (f id)) = 3 * m.1 136 0 (f id) := w32_of (by omega) (by omega)
      have w2 : w32 (3 * m.1 136 0 (f id) + 1) = 3 * m.1 136 0 (f id) + 1 := w32_of (by omega) (by omega)
      have tf2 : F12_toFar (f id) m = if c.1 28 (m.1 136 0 (f id)) 1 = 0 then F12_toFar_121 (f id) (m.1 135 0 (f id)) n' b' m else (F12_over (f id) 8 (-1) m).bind (fun h => some h) := by
        rw [tf]
        unfold F12_toFar_15b
        rw [K2, if_pos (by omega), g_t hfr, if_pos q, g_t hfr, e1, Option.bind_some, if_neg (by simp), g_t hfr]
        dsimp only
        rw [w1, w2, g_t (by omega), f1]
      have cf2 : F11_placeFar (some id) (some r) c = if c.1 28 (m.1 136 0 (f id)) 1 = 0 then F11_placeFar_56 (some id) (some r) (some (m.1 135 0 (f id))) ke c else some (8, c) := by
        unfold F11_placeFar F11_placeFar_13 F11_placeFar_40
        rw [Option.bind_some, if_neg (by omega), if_pos rfl, Option.bind_some, if_neg (by rw [a1]; simp), a1, Option.bind_some, g_t (by omega), Option.bind_some, if_pos rfl, b_hm.1, hz]
      by_cases z : c.1 28 (m.1 136 0 (f id)) 1 = 0
      · rw [if_pos z] at tf2 cf2
        exact fin cf2 tf2
      · rw [if_neg z] at tf2 cf2
        exact ⟨8, c, cf2, Or.inr ⟨by omega, by omega, rfl, tf2⟩⟩
    · have e1 : F12_isLineSide (m.1 136 0 (f id)) m = some (0, m) := by
        unfold F12_isLineSide F12_isLineSide_14
        rw [if_neg (by omega), if_pos (by omega)]
      refine fin ?_ ?_
      · unfold F11_placeFar F11_placeFar_13 F11_placeFar_40
        rw [Option.bind_some, if_neg (by omega), if_pos rfl, Option.bind_some, if_pos a1, Option.bind_some, if_pos rfl, b_hm.1, hz]
      · rw [tf]
        unfold F12_toFar_15b
        rw [K2, if_pos (by omega), g_t hfr, if_pos q, g_t hfr, e1, Option.bind_some, if_pos rfl]
  · have hz := ke2 q
    have r2 : c.1 6 r 2 = 2 := by rw [hr.2.2.2.1, q]
    refine fin ?_ ?_
    · unfold F11_placeFar F11_placeFar_13 F11_placeFar_40
      rw [Option.bind_some, if_pos r2, if_neg (by simp), Option.bind_some, if_neg (by simp), b_hm.1, hz]
    · rw [tf]
      unfold F12_toFar_15b
      rw [K2, if_pos (by omega), g_t hfr, if_neg (by omega)]
/-- the group alone is set -/
theorem rel_grp (hf : f_ok f) {id : Int} (G : Option Int) (hv : lv c id) (hs : c.1 0 id 9 ≤ 2) (h3 : c.2.2 0 id 3 = none) (h8 : m.1 138 0 (f id) = -1) (R : rel f N z1 z2 X sec Y id B H c m) : rel f N z1 z2 X sec Y id B H (sR c 0 id 5 G) m := by
  have hh : r_h f N z1 z2 X sec Y id (sR c 0 id 5 G) m := by
    have inj := hf.1
    have hlv : ∀ i, lv (sR c 0 id 5 G) i ↔ lv c i := fun i => by unfold lv; rw [rR_I]
    have HH := R.2.2.1
    obtain ⟨h_st, h_sx, h_hm, h_sa, h_sb, h_gp, h_ky, h_k1, h_fw, h_fr, h_ce, h_an, h_zn, h_rw, h_la, h_lo, h_lr, h_wa, h_wo, h_wx, h_wr, h_w3, h_w4, h_w8, h_w9, h_w5, h_t1, h_t2, h_t3, h_t6, h_t9, h_ty, h_xx, h_zr⟩ := HH
    refine ⟨?_, ?_, ?_, ?_, ?_, ?_, ?_, ?_, ?_, ?_, ?_, ?_, ?_, ?_, ?_, ?_, ?_, ?_, ?_, ?_, ?_, ?_, ?_, ?_, ?_, ?_, ?_, ?_, ?_, ?_, ?_, ?_, ?_, ?_⟩
    · -- st
      simpa [d_st, hlv, rI_I, rI_L, rI_R, rL_I, rL_L, rL_R, rR_I, rR_L, rR_R] using h_st
    · -- sx
      simpa [d_sx, hlv, rI_I, rI_L, rI_R, rL_I, rL_L, rL_R, rR_I, rR_L, rR_R] using h_sx
    · -- hm
      simpa [d_hm, hlv, rI_I, rI_L, rI_R, rL_I, rL_L, rL_R, rR_I, rR_L, rR_R] using h_hm
    · -- sa
      simpa [d_sa, hlv, rI_I, rI_L, rI_R, rL_I, rL_L, rL_R, rR_I, rR_L, rR_R] using h_sa
    · -- sb
      simp only [d_sb, hlv, rI_I, rI_L, rI_R, rL_I, rL_L, rL_R, rR_I, rR_L, rR_R] at h_sb ⊢
      intro i a
      by_cases z : i = id
      · subst z
        rcases h_sb i a with h | h | h | h | h
        · exact Or.inl (by simpa using h)
        · exact Or.inr (Or.inl (by simpa using h))
        · exact Or.inr (Or.inr (Or.inl (by simpa using h)))
        · exact Or.inr (Or.inr (Or.inr (Or.inl (by simpa using h))))
        · omega
      · simpa [z] using h_sb i a
    · -- gp
      simp only [d_gp, hlv, rI_I, rI_L, rI_R, rL_I, rL_L, rL_R, rR_I, rR_L, rR_R] at h_gp ⊢; grind [rf, lv]
    · -- ky
      simpa [d_ky, hlv, rI_I, rI_L, rI_R, rL_I, rL_L, rL_R, rR_I, rR_L, rR_R] using h_ky
    · -- k1
      simpa [d_k1, hlv, rI_I, rI_L, rI_R, rL_I, rL_L, rL_R, rR_I, rR_L, rR_R] using h_k1
    · -- fw
      simpa [d_fw, hlv, rI_I, rI_L, rI_R, rL_I, rL_L, rL_R, rR_I, rR_L, rR_R] using h_fw
    · -- fr
      simpa [d_fr, hlv, rI_I, rI_L, rI_R, rL_I, rL_L, rL_R, rR_I, rR_L, rR_R] using h_fr
    · -- ce
      simpa [d_ce, hlv, rI_I, rI_L, rI_R, rL_I, rL_L, rL_R, rR_I, rR_L, rR_R] using h_ce
    · -- an
      simpa [d_an, hlv, rI_I, rI_L, rI_R, rL_I, rL_L, rL_R, rR_I, rR_L, rR_R] using h_an
    · -- zn
      simpa [d_zn, hlv, rI_I, rI_L, rI_R, rL_I, rL_L, rL_R, rR_I, rR_L, rR_R] using h_zn
    · -- rw
      simpa [d_rw, hlv, rI_I, rI_L, rI_R, rL_I, rL_L, rL_R, rR_I, rR_L, rR_R] using h_rw
    · -- la
      simpa [d_la, hlv, rI_I, rI_L, rI_R, rL_I, rL_L, rL_R, rR_I, rR_L, rR_R] using h_la
    · -- lo
      simpa [d_lo, hlv, rI_I, rI_L, rI_R, rL_I, rL_L, rL_R, rR_I, rR_L, rR_R] using h_lo
    · -- lr
      simpa [d_lr, hlv, rI_I, rI_L, rI_R, rL_I, rL_L, rL_R, rR_I, rR_L, rR_R] using h_lr
    · -- wa
      simpa [d_wa, hlv, rI_I, rI_L, rI_R, rL_I, rL_L, rL_R, rR_I, rR_L, rR_R] using h_wa
    · -- wo
      simpa [d_wo, hlv, rI_I, rI_L, rI_R, rL_I, rL_L, rL_R, rR_I, rR_L, rR_R] using h_wo
    · -- wx
      simpa [d_wx, hlv, rI_I, rI_L, rI_R, rL_I, rL_L, rL_R, rR_I, rR_L, rR_R] using h_wx
    · -- wr
      simpa [d_wr, hlv, rI_I, rI_L, rI_R, rL_I, rL_L, rL_R, rR_I, rR_L, rR_R] using h_wr
    · -- w3
      simpa [d_w3, hlv, rI_I, rI_L, rI_R, rL_I, rL_L, rL_R, rR_I, rR_L, rR_R] using h_w3
    · -- w4
      simpa [d_w4, hlv, rI_I, rI_L, rI_R, rL_I, rL_L, rL_R, rR_I, rR_L, rR_R] using h_w4
    · -- w8
      simpa [d_w8, hlv, rI_I, rI_L, rI_R, rL_I, rL_L, rL_R, rR_I, rR_L, rR_R] using h_w8
    · -- w9
      simpa [d_w9, hlv, rI_I, rI_L, rI_R, rL_I, rL_L, rL_R, rR_I, rR_L, rR_R] using h_w9
    · -- w5
      simp only [d_w5, d_sb, hlv, rI_I, rI_L, rI_R, rL_I, rL_L, rL_R, rR_I, rR_L, rR_R] at h_w5 h_sb ⊢; grind [rf, lv]
    · -- t1
      simpa [d_t1, hlv, rI_I, rI_L, rI_R, rL_I, rL_L, rL_R, rR_I, rR_L, rR_R] using h_t1
    · -- t2
      simpa [d_t2, hlv, rI_I, rI_L, rI_R, rL_I, rL_L, rL_R, rR_I, rR_L, rR_R] using h_t2
    · -- t3
      simpa [d_t3, hlv, rI_I, rI_L, rI_R, rL_I, rL_L, rL_R, rR_I, rR_L, rR_R] using h_t3
    · -- t6
      simpa [d_t6, hlv, rI_I, rI_L, rI_R, rL_I, rL_L, rL_R, rR_I, rR_L, rR_R] using h_t6
    · -- t9
      simpa [d_t9, hlv, rI_I, rI_L, rI_R, rL_I, rL_L, rL_R, rR_I, rR_L, rR_R] using h_t9
    · -- ty
      simpa [d_ty, hlv, rI_I, rI_L, rI_R, rL_I, rL_L, rL_R, rR_I, rR_L, rR_R] using h_ty
    · -- xx
      simpa [d_xx, hlv, rI_I, rI_L, rI_R, rL_I, rL_L, rL_R, rR_I, rR_L, rR_R] using h_xx
    · -- zr
      simpa [d_zr, hlv, rI_I, rI_L, rI_R, rL_I, rL_L, rL_R, rR_I, rR_L, rR_R] using h_zr

  exact rel_h hf R hh (so_R (so_rfl c) rfl _ _) (so_rfl m) (fun n => ⟨Iff.rfl, fun q => ⟨by rw [rR_R, if_neg (fun z => by rw [z.2.1] at q; omega)], rfl⟩, Iff.rfl⟩) (fun s a b => by simp)
/-- a row to a group -/
theorem p_group (hf : f_ok f) (hB : B + 3 < 2000000000) {id g : Int} (P : plc f N Y B H id c m) (hzn : c.2.2 0 id 1 ≠ none → m.1 143 0 (f id) = c.1 0 id 11 ∧ 0 ≤ c.1 0 id 11 ∧ c.1 0 id 11 ≤ 3) (h8 : m.1 138 0 (f id) = -1) (hg3 : 0 ≤ g ∧ g ≤ 2) :
    ∃ out c1, F11_placeToGroup (some id) (some (3 * m.1 135 0 (f id) + g)) c = some (out, c1) ∧
      ((out = 2 ∧ rel f N (-1) (-1) (-1) none Y id B H c1 m ∧ lv c1 id ∧ so w_C c c1 ∧ F12_toGroup (f id) g m = (F12_over (f id) 2 (-1) m).bind (fun h => some h)) ∨
       (out = 0 ∧ c1.1 0 id 9 ≠ 1 ∧ ∃ c' m', F11_announce (some id) c1 = some c' ∧ F12_toGroup (f id) g m = some m' ∧ rel f N (-1) (-1) (-1) none Y (-1) (B + 2) H c' m' ∧ so w_C c c' ∧ so w_M m m')) := by
  obtain ⟨R, hv, h7, hg, hky, hfw⟩ := P
  have hfr := hf.2.2.1 id hv.1 (by have := hv.2.1; omega)
  have b_hm := R.2.2.1.2.2.1 id hv
  have b_st := R.2.2.1.1 id hv.1 hv.2.1
  obtain ⟨s1, s2, s3, s4⟩ := sd_of hv R h7
  have hnow : m.1 12 0 2 = c.1 11 0 10 := R.1.2.2.2.2.2.2.2.1
  generalize he : m.1 135 0 (f id) = e at *
  generalize hq : 3 * e + g = q at *
  have q06 : 0 ≤ q ∧ q < 6 := by omega
  have w1 : w32 (3 * e) = 3 * e := w32_of (by omega) (by omega)
  have w2 : w32 (3 * e + g) = q := by rw [hq]; exact w32_of (by omega) (by omega)
  have R6 := rel_grp hf (some q) hv s4 s1 h8 R
  obtain ⟨q1, q2, q3⟩ := R.2.2.2.2.1.1 q
  obtain ⟨a, b, n1, n2, n3⟩ := p_next hf R6.2.1 R6.2.2.1 R6.2.2.2.2.1 q06.1 q06.2
  have hv6 : lv (sR c 0 id 5 (some q)) id := ⟨hv.1, hv.2.1, hv.2.2⟩
  -- nobody is ready, or others wait
  have wt : ∃ out c1, F11_placeToGroup_20 (some id) (some q) none (sR c 0 id 5 (some q)) = some (out, c1) ∧
      ((out = 2 ∧ rel f N (-1) (-1) (-1) none Y id B H c1 m ∧ lv c1 id ∧ so w_C c c1 ∧ F12_toGroup_29 (f id) g q (-1) m = (F12_over (f id) 2 (-1) m).bind (fun h => some h)) ∨
       (out = 0 ∧ c1.1 0 id 9 ≠ 1 ∧ ∃ c' m', F11_announce (some id) c1 = some c' ∧ F12_toGroup_29 (f id) g q (-1) m = some m' ∧ rel f N (-1) (-1) (-1) none Y (-1) (B + 2) H c' m' ∧ so w_C c c' ∧ so w_M m m')) := by
    unfold F11_placeToGroup_20 F12_toGroup_29
    rw [if_pos rfl, Option.bind_some, if_pos rfl, g_t q06, g_t q06, rR_I, ← q2, ← q3]
    by_cases z : m.1 151 0 q ≤ m.1 153 0 q
    · rw [if_neg (by omega), if_pos z]
      exact ⟨2, _, rfl, Or.inl ⟨rfl, R6, hv6, so_R (so_rfl c) rfl _ _, rfl⟩⟩
    · rw [if_pos (by omega), if_neg z, g_t q06, g_t q06]
      have hM := r_q_many hf R.2.2.2.2.1 q06.1 q06.2
      have h60 := (R.2.2.2.2.1.2.2.1 q q06.1 q06.2).1
      obtain ⟨b1, b2, b3, b4, b5, b6⟩ := R.2.2.2.2.1.2.2.2.2.2 q q06.1 q06.2
      have x1 : w32 (m.1 153 0 q + 1) = m.1 153 0 q + 1 := w32_of (by omega) (by omega)
      have x2 : w32 (80 * q) = 80 * q := w32_of (by omega) (by omega)
      have x3 : w32 (80 * q + m.1 153 0 q) = 80 * q + m.1 153 0 q := w32_of (by omega) (by omega)
      have x4 : w32 (300 + g) = 300 + g := w32_of (by omega) (by omega)
      have x5 : w32 (c.1 2 q 5 + 1) = c.1 2 q 5 + 1 := w32_of (by omega) (by omega)
      have x6 : w32 (c.1 2 q 3 + 1) = c.1 2 q 3 + 1 := by rw [← q3]; exact x1
      -- the class
      have ec : (F11_enter (some id) 4 (sR c 0 id 5 (some q))).bind (fun h2 => (F2_letWait q (some id) 0 h2).bind (fun h3 => some ((0 : Int), h3))) = some (0, sI (sI (sI (sI (sI (sR c 0 id 5 (some q)) 0 id 9 4) 0 id 10 (c.1 11 0 10)) 2 q 5 (c.1 2 q 5 + 1)) 0 id 14 (c.1 2 q 5 + 1)) 2 q 3 (c.1 2 q 3 + 1)) := by
        unfold F11_enter F2_letWait F2_letWait_43
        simp only [Option.bind_some, lt_d]
        simp [rI_I, rR_I, x5, x6]
      -- the reference, ahead of announcing
      generalize hM2 : sI (sI (sI (sI (sI m 153 0 q (m.1 153 0 q + 1)) 152 0 (80 * q + m.1 153 0 q) (f id)) 137 0 (f id) (300 + g)) 133 0 (f id) 4) 145 0 (f id) (c.1 11 0 10) = M2 at *
      generalize hC2 : sI (sI (sI (sI (sI (sR c 0 id 5 (some q)) 0 id 9 4) 0 id 10 (c.1 11 0 10)) 2 q 5 (c.1 2 q 5 + 1)) 0 id 14 (c.1 2 q 5 + 1)) 2 q 3 (c.1 2 q 3 + 1) = C2 at *
      have em : lt_ (sI m 153 0 q (w32 (m.1 153 0 q + 1))) (fun h2 => g_ ((0 : Int) ≤ w32 ((w32 (80 * q)) + (m.1 153 0 q)) ∧ w32 ((w32 (80 * q)) + (m.1 153 0 q)) < (480 : Int)) (lt_ (sI h2 152 0 (w32 ((w32 (80 * q)) + (m.1 153 0 q))) (f id)) (fun h3 => g_ ((0 : Int) ≤ f id ∧ f id < (80 : Int)) (lt_ (sI h3 137 0 (f id) (w32 (300 + g))) (fun h4 => (F12_becomes (f id) 4 h4).bind (fun h5 => (F12_acm (f id) h5).bind (fun h6 => some h6))))))) = (F12_acm (f id) M2).bind (fun h6 => some h6) := by
        unfold F12_becomes
        rw [x1, x2, x3, lt_d, g_t (by omega), lt_d, g_t hfr, x4, lt_d, g_t hfr, lt_d, g_t hfr, lt_d, Option.bind_some]
        have : (sI (sI (sI (sI m 153 0 q (m.1 153 0 q + 1)) 152 0 (80 * q + m.1 153 0 q) (f id)) 137 0 (f id) (300 + g)) 133 0 (f id) 4).1 12 0 2 = c.1 11 0 10 := by simp [rI_I, hnow]
        rw [this, hM2]
      rw [ec, em]
      have t := t_wait (c := sR c 0 id 5 (some q)) (m := m) (g := g) (nw := c.1 11 0 10) (tn := c.1 2 q 5 + 1) hf hv6 ⟨by simp [rR_R, s1], by simp [rR_R, s2], s3, by rw [rR_I]; omega⟩ (by simpa [rR_R, rR_I] using hzn) (by rw [he, hq]; simp [rR_R]; exact hg3) h8 R6.2.2.1
      have t2 : r_h f N (-1) (-1) (-1) none Y id C2 M2 := by
        refine r_h_cg (fun k n j hk => ?_) (fun k n j hk => ?_) t
        · rw [← hC2]
          refine ⟨?_, rfl, rfl⟩
          simp only [rI_I]
          have : k ≠ 2 := fun z => by rw [z] at hk; cases hk
          simp [this]
        · rw [← hM2]
          simp only [rI_I]
          have : k ≠ 153 := fun z => by rw [z] at hk; cases hk
          have : k ≠ 152 := fun z => by rw [z] at hk; cases hk
          simp [*]
      have I9 : ∀ n, C2.1 0 n 9 = if n = id then 4 else c.1 0 n 9 := fun n => by rw [← hC2]; simp [rI_I, rR_I]
      have I14 : ∀ n, C2.1 0 n 14 = if n = id then c.1 2 q 5 + 1 else c.1 0 n 14 := fun n => by rw [← hC2]; simp [rI_I, rR_I]
      have I5 : ∀ n, C2.2.2 0 n 5 = if n = id then some q else c.2.2 0 n 5 := fun n => by rw [← hC2]; simp [rI_R, rR_R]
      have sc : so w_x c C2 := by rw [← hC2]; exact so_I (so_I (so_I (so_I (so_I (so_R (so_rfl c) rfl _ _) rfl _ _) rfl _ _) rfl _ _) rfl _ _) rfl _ _
      have sm : so w_xm m M2 := by rw [← hM2]; exact so_I (so_I (so_I (so_I (so_I (so_rfl m) rfl _ _) rfl _ _) rfl _ _) rfl _ _) rfl _ _
      have hq' : r_q f (B + 1) C2 M2 := by
        refine q_ins (p := m.1 153 0 q) (tn := c.1 2 q 5 + 1) hf R.2.2.2.2.1 hv (by omega) q06.1 q06.2 h60 (by omega) (by omega) I9 I14 I5 (fun n => ?_) (fun n => ?_) (fun n hn => ?_) ?_ (fun a' i i0 i1 _ _ t2 => ⟨fun _ => by omega, fun w => by omega⟩) (fun n j => by rw [← hC2]; simp [rI_R, rR_R]) (fun k j k1 k2 => ?_) (fun q' i a0 a1 i0 i1 => ?_) (fun j => ?_)
        · rw [← hC2]; simp [rI_I, rR_I]
        · rw [← hC2]; simp [rI_I, rR_I]
        · rw [← hC2]; simp [rI_I, rR_I, hn]
        · have e1 : C2.1 2 q 4 = c.1 2 q 4 := by rw [← hC2]; simp [rI_I, rR_I]
          have e2 : C2.1 2 q 5 = c.1 2 q 5 + 1 := by rw [← hC2]; simp [rI_I, rR_I]
          rw [e1, e2]; omega
        · rw [← hM2]; simp only [rI_I]; rw [if_neg (by omega), if_neg (by omega), if_neg (by omega), if_neg (by omega), if_neg (by omega)]
        · rw [← hM2]; simp only [rI_I]
          by_cases w : q' = q ∧ i = m.1 153 0 q
          · obtain ⟨rfl, rfl⟩ := w; simp
          · rw [if_neg w, if_neg (by omega), if_neg (by omega), if_neg (by omega), if_neg (by omega), if_neg (by omega), if_neg (by omega)]
        · rw [← hM2]; simp [rI_I]
      have hr' : r_r C2 M2 := by
        refine rr_cg R.2.2.2.2.2.1 (fun s a b => ?_) (fun e r => by rw [← hC2]; simp [rI_I, rR_I]) (by rw [← hC2]; simp [rI_I, rR_I])
        rw [← hM2]
        simp only [rI_I]
        by_cases w : s = f id
        · subst w
          have h3 : m.1 133 0 (f id) ≠ 3 ∧ m.1 133 0 (f id) ≠ -1 := by have := hv.2.2; omega
          simp [h3.1, h3.2]
        · simp [w]
      have ha' : r_a f (B + 1) H C2 M2 := r_a_mono (by omega) (a_cg R.2.2.2.2.2.2.1 (fun n => by
          rw [I9]
          by_cases w : n = id
          · subst w; simp; exact hv.2.2
          · simp [w]) (fun j => by rw [← hC2]; simp [rI_R, rR_R]) (by rw [← hC2]; simp [rI_I, rR_I]) (by rw [← hC2]; simp [rI_I, rR_I]) (fun j => by rw [← hM2]; simp [rI_I]) (by rw [← hM2]; simp [rI_I]))
      have R2 := rel_mk (B' := B + 1) (by omega) R sc sm t2 hq' hr' ha'
      obtain ⟨c', m', p1, p2, p3, p4, p5⟩ := p_fin hf (by omega) (id := id) ⟨hv.1, hv.2.1, by rw [I9, if_pos rfl]; decide⟩ R2 (by rw [← hC2, ← hM2]; simpa [rI_I, rI_L, rR_L] using hky) (by rw [I9, if_pos rfl]; exact ⟨fun q => (by cases q), by rw [← hC2]; simp [rI_I, rR_I]; exact hfw⟩) (by rw [I9, if_pos rfl]; intro _ q; omega) (by rw [I9, if_pos rfl]; decide)
      rw [p2, Option.bind_some]
      exact ⟨0, C2, rfl, Or.inr ⟨rfl, by rw [I9, if_pos rfl]; decide, c', m', p1, rfl, rel_mono (by omega) p3, so_tr (so_mono w_e1 sc) p4, so_tr (so_mono w_e2 sm) p5⟩⟩
  unfold F11_placeToGroup F12_toGroup
  rw [Option.bind_some, lt_d, Option.bind_some, g_t hfr, lt_d, he, w1, w2, g_t q06]
  rw [show (sR c 0 id 5 (some q)).1 2 q 3 = m.1 153 0 q from by rw [rR_I, q3]]
  by_cases z : m.1 153 0 q = 0
  · rw [if_pos z, if_pos z, n1, n2, Option.bind_some, Option.bind_some]
    rcases n3 with ⟨rfl, rfl⟩ | ⟨rfl, g1⟩
    · exact wt
    · obtain ⟨g1, g2, g3, g4, g5, g6, g7⟩ := g1
      dsimp only
      unfold F11_placeToGroup_20 F12_toGroup_29
      rw [if_neg (by simp), if_neg (by omega), g_t (by omega), lt_d]
      obtain ⟨c1, c', m', p1, p2, p3, p4, p5, p6, p7⟩ := p_ring (c := sR c 0 id 5 (some q)) (m := m) (l := b) (g := g) hf (by omega) hv6 R6 h7 hky hfw (by simpa [rR_R, rR_I] using hzn) ⟨g1, g2, by rw [he]; omega, by rw [he]; omega, g5, g6⟩ (Or.inr ⟨hg3.1, hg3.2, by rw [he, hq]; simp [rR_R]⟩)
      rw [p1, Option.bind_some, p4, Option.bind_some]
      exact ⟨0, c1, rfl, Or.inr ⟨rfl, by rw [p2]; decide, c', m', p3, rfl, rel_mono (by omega) p5, so_tr (so_R (so_rfl c) rfl _ _) p6, p7⟩⟩
  · rw [if_neg z, if_neg z]
    exact wt
end RS
