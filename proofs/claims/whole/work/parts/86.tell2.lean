/-! ===== one side of a call is told its end ===== -/
def r_k (N : Int) (c m : JM) : Prop := c.1 11 0 0 = N ∧ m.1 12 0 0 = N ∧ 1 ≤ N ∧ N ≤ 16 ∧ m.1 12 0 1 = c.1 11 0 1 ∧ 0 ≤ c.1 11 0 1 ∧ c.1 11 0 1 ≤ N ∧ m.1 12 0 2 = c.1 11 0 10 ∧ 0 ≤ c.1 11 0 10 ∧ c.1 11 0 10 ≤ 10000000 ∧ (∀ e, e = 0 ∨ e = 1 → c.1 1020 e 1 = N ∧ c.1 1 e 0 = e) ∧ (∀ l, 0 ≤ l → l < 16 → c.1 4 l 0 = l) ∧ (∀ e k, e = 0 ∨ e = 1 → 0 ≤ k → k < N → c.1 8 (16 * e + k) 0 = k ∧ c.2.2 8 (16 * e + k) 1 = some (16 * (1 - e) + k))
def rkC (k : Nat) (j : Int) : Bool := (k == 11 && (j == 0 || j == 1 || j == 10)) || k == 1020 || (k == 1 && j == 0) || (k == 4 && j == 0) || (k == 8 && (j == 0 || j == 1))
def rkM (k : Nat) (j : Int) : Bool := k == 12 && (j == 0 || j == 1 || j == 2)
theorem r_k_cg {N : Int} {c m c' m' : JM} (hc : ∀ k n j, rkC k j = true → c'.1 k n j = c.1 k n j ∧ c'.2.2 k n j = c.2.2 k n j) (hm : ∀ k n j, rkM k j = true → m'.1 k n j = m.1 k n j) (H : r_k N c m) : r_k N c' m' := by
  have a0 : ∀ n, c'.1 11 n 0 = c.1 11 n 0 := fun n => (hc 11 n 0 rfl).1
  have a1 : ∀ n, c'.1 11 n 1 = c.1 11 n 1 := fun n => (hc 11 n 1 rfl).1
  have a2 : ∀ n, c'.1 11 n 10 = c.1 11 n 10 := fun n => (hc 11 n 10 rfl).1
  have a3 : ∀ n j, c'.1 1020 n j = c.1 1020 n j := fun n j => (hc 1020 n j rfl).1
  have a4 : ∀ n, c'.1 1 n 0 = c.1 1 n 0 := fun n => (hc 1 n 0 rfl).1
  have a5 : ∀ n, c'.1 4 n 0 = c.1 4 n 0 := fun n => (hc 4 n 0 rfl).1
  have a6 : ∀ n, c'.1 8 n 0 = c.1 8 n 0 := fun n => (hc 8 n 0 rfl).1
  have a7 : ∀ n, c'.2.2 8 n 1 = c.2.2 8 n 1 := fun n => (hc 8 n 1 rfl).2
  have b0 : ∀ n, m'.1 12 n 0 = m.1 12 n 0 := fun n => hm 12 n 0 rfl
  have b1 : ∀ n, m'.1 12 n 1 = m.1 12 n 1 := fun n => hm 12 n 1 rfl
  have b2 : ∀ n, m'.1 12 n 2 = m.1 12 n 2 := fun n => hm 12 n 2 rfl
  unfold r_k at H ⊢
  simp only [a0, a1, a2, a3, a4, a5, a6, a7, b0, b1, b2]
  exact H
def rlC (k : Nat) (j : Int) : Bool := k == 4 && (j == 4 || j == 5 || j == 6 || j == 7 || j == 8 || j == 9 || j == 10 || j == 14 || j == 15 || j == 16 || j == 17 || j == 18 || j == 19)
def rlM (k : Nat) : Bool := k == 112 || k == 113 || k == 114 || k == 115 || k == 116 || k == 118 || k == 122 || k == 123 || k == 124 || k == 125 || k == 126 || k == 130 || k == 131
theorem r_l_cg {X : Int} {c m c' m' : JM} (hc : ∀ k n j, rlC k j = true → c'.1 k n j = c.1 k n j) (hm : ∀ k n j, rlM k = true → m'.1 k n j = m.1 k n j) (H : r_l X c m) : r_l X c' m' := by
  intro l
  have h := H l
  rw [hm 112 0 l rfl, hm 113 0 l rfl, hm 114 0 l rfl, hm 115 0 l rfl, hm 116 0 l rfl, hm 118 0 l rfl, hm 122 0 l rfl, hm 123 0 l rfl, hm 124 0 l rfl, hm 125 0 l rfl, hm 126 0 l rfl, hm 130 0 l rfl, hm 131 0 l rfl, hc 4 l 4 rfl, hc 4 l 5 rfl, hc 4 l 6 rfl, hc 4 l 7 rfl, hc 4 l 8 rfl, hc 4 l 9 rfl, hc 4 l 10 rfl, hc 4 l 14 rfl, hc 4 l 15 rfl, hc 4 l 16 rfl, hc 4 l 17 rfl, hc 4 l 18 rfl, hc 4 l 19 rfl]
  exact h
theorem p_pk2 (ty : Nat) (hty : ty = 2 ∨ ty = 3 ∨ ty = 5) {k : Int} (hk : 0 ≤ k ∧ k < 16) (h : JM) : ∃ x, F9_pack ty k 0 h = some (x, h) ∧ mg [k.toNat, ty] x := by
  have e : k = ((k.toNat : Nat) : Int) := by omega
  have z := f_pack (ty := ty) (k := k.toNat) (a := 0) (by omega) (by omega) (by decide) h
  rw [← e] at z
  rw [Nat.add_zero] at z
  exact ⟨_, z, Or.inl ⟨k.toNat, ty, by omega, hty, rfl, rfl⟩⟩
theorem p_pk3 {k a : Int} (hk : 0 ≤ k ∧ k < 16) (ha : 0 ≤ a ∧ a < 256) (h : JM) : ∃ x, F9_pack 4 k a h = some (x, h) ∧ mg [k.toNat, 4, a.toNat] x := by
  have e : k = ((k.toNat : Nat) : Int) := by omega
  have e2 : a = ((a.toNat : Nat) : Int) := by omega
  have z := f_pack (ty := 4) (k := k.toNat) (a := a.toNat) (by omega) (by omega) (by omega) h
  rw [← e, ← e2] at z
  exact ⟨_, z, Or.inr (Or.inl ⟨k.toNat, a.toNat, by omega, by omega, rfl, rfl⟩)⟩
def m_beg (m : JM) (k ty : Int) : JM := sI (sI (sI m 156 0 0 k) 156 0 1 ty) 12 0 57 2
theorem f_begins (m : JM) (k ty : Int) : F12_begins k ty m = some (m_beg m k ty) := by
  simp [F12_begins, m_beg, g_, lt_]
def w_tell (k : Nat) (j : Int) : Bool := k == 5 || k == 31 || (k == 4 && (j == 11 || j == 12 || j == 13 || j == 14 || j == 15 || j == 16)) || (k == 8 && (j == 2 || j == 3))
def w_tells (k : Nat) (j : Int) : Bool := k == 119 || k == 120 || k == 121 || k == 122 || k == 123 || k == 125 || k == 154 || k == 155 || k == 156 || k == 158 || k == 159 || k == 160 || (k == 12 && j == 57)
theorem w_a1 : ∀ k j, w_tell k j = false → w_post k j = false := by intro k j; simp [w_tell, w_post]; omega
theorem w_a2 : ∀ k j, w_tells k j = false → w_goes k j = false := by intro k j; simp [w_tells, w_goes]; omega
theorem w_a3 : ∀ k j, rdC k j = true → w_post k j = false := by intro k j; simp [rdC, w_post]; omega
theorem w_a4 : ∀ k (j : Int), rdM k = true → w_goes k j = false := by intro k j; simp [rdM, w_goes]; omega
theorem w_a5 : ∀ k j, rkC k j = true → w_tell k j = false := by intro k j; simp [rkC, w_tell]; omega
theorem w_a6 : ∀ k j, rkM k j = true → w_tells k j = false := by intro k j; simp [rkM, w_tells]; omega
theorem w_a7 : ∀ k j, rlC k j = true → w_post k j = false := by intro k j; simp [rlC, w_post]; omega
theorem w_a8 : ∀ k (j : Int), rlM k = true → w_goes k j = false := by intro k j; simp [rlM, w_goes]; omega
theorem f_tellT {c c' : JM} {id t e k why x : Int} (h1 : c.2.2 0 id 0 = some e) (h2 : c.1 8 t 0 = k) (h3 : F9_pack 4 k why (sR (sI c 8 t 2 3) 8 t 3 none) = some (x, sR (sI c 8 t 2 3) 8 t 3 none)) (h4 : F5_post e x (sR (sI c 8 t 2 3) 8 t 3 none) = some c') : F11_tellEnd (some id) none (some t) why c = some c' := by
  unfold F11_tellEnd F11_tellEnd_44
  rw [if_pos rfl, if_neg (by simp)]
  show ((sR (sI c 8 t 2 3) 8 t 3 none).2.2 0 id 0).bind _ = _
  rw [rR_R, if_neg (by omega), rI_R, h1, Option.bind_some, rR_I, rI_I, if_neg (by omega), h2, h3, Option.bind_some, h4]
  rfl
theorem m_tellT {m m' : JM} {id s e t why : Int} (h1 : 100 ≤ s ∧ s < 200) (h2 : 0 ≤ id ∧ id < 80) (h3 : m.1 135 0 id = e) (he : e = 0 ∨ e = 1) (ht : 16 * e + s - 100 = t) (h4 : F12_goes e (sI (sI (m_beg m (s - 100) 4) 12 0 57 3) 156 0 2 why) = some m') (hs : s < 116) : F12_tells id s why m = some (sI (sI m' 154 0 t 3) 155 0 t (-1)) := by
  have w1 : w32 (16 * e) = 16 * e := w32_of (by omega) (by omega)
  have w2 : w32 (16 * e + s) = 16 * e + s := w32_of (by omega) (by omega)
  have w3 : w32 (16 * e + s - 100) = t := by rw [w32_of (by omega) (by omega)]; exact ht
  have w4 : w32 (s - 100) = s - 100 := w32_of (by omega) (by omega)
  have hz : (m_beg m (s - 100) 4).1 12 0 57 = 2 := rfl
  have hz2 : (sI (sI (m_beg m (s - 100) 4) 12 0 57 3) 156 0 2 why).1 135 0 id = e := by simp [m_beg, rI_I, h3]
  have w6 : w32 (2 + 1) = 3 := w32_of (by omega) (by omega)
  have q3 : F12_isCircuit s m = some (1, m) := by
    unfold F12_isCircuit
    rw [if_neg (by omega), if_neg (by omega)]
  unfold F12_tells
  rw [q3, Option.bind_some, if_neg (by simp), g_t h2, lt_d, h3, w1, w2, w3, w4, f_begins, Option.bind_some, lt_d, hz, w6, g_t (by decide), lt_d, g_t h2, hz2, h4, Option.bind_some, g_t (by omega), lt_d, g_t (by omega), lt_d]
section RT
variable {f : Int → Int} {N z1 z2 X : Int} {sec : Option Int} {Y zd : Int} {c m c' m' : JM} {B : Int}
set_option maxRecDepth 20000 in
theorem p_tell (hf : f_ok f) (hB : B < 2000000000) {id s why : Int} {L T : Option Int} (hw : 0 ≤ why ∧ why < 256) (hv : lv c id) (hK : r_k N c m) (hl : r_l X c m) (H : r_h f N id z2 X sec Y zd c m) (hm : ∀ e, e = 0 ∨ e = 1 → r_m B c m e)
    (hs : (0 ≤ s ∧ s < 16 ∧ L = some s ∧ T = none ∧ s ≠ X) ∨ (100 ≤ s ∧ s < 100 + N ∧ L = none ∧ T = some (16 * m.1 135 0 (f id) + s - 100) ∧ 16 * m.1 135 0 (f id) + s - 100 ≠ Y ∧ (c.2.2 0 id 2 = T ∨ c.2.2 0 id 4 = T) ∧ (∀ i, c.2.2 8 (16 * m.1 135 0 (f id) + s - 100) 3 = some i → i = id)) ∨ (200 ≤ s ∧ L = none ∧ T = none)) :
    ∃ c' m', F11_tellEnd (some id) L T why c = some c' ∧ F12_tells (f id) s why m = some m' ∧ r_k N c' m' ∧ r_l X c' m' ∧ r_h f N id z2 X sec Y zd c' m' ∧ (∀ e, e = 0 ∨ e = 1 → r_m (B + 1) c' m' e) ∧ so w_tell c c' ∧ so w_tells m m' ∧
      (∀ l j i, c'.2.2 4 l j = some i → c.2.2 4 l j = some i ∧ (i = id → L = some l → j ≠ 11 ∧ j ≠ 12 ∧ j ≠ 13)) ∧ (∀ t i, c'.2.2 8 t 3 = some i → c.2.2 8 t 3 = some i ∧ T ≠ some t) := by
  have hmono : ∀ {c m : JM}, (∀ e, e = 0 ∨ e = 1 → r_m B c m e) → (∀ e, e = 0 ∨ e = 1 → r_m (B + 1) c m e) := fun q e he => by
    obtain ⟨q1, q2, q3⟩ := q e he
    exact ⟨q1, by omega, q3⟩
  obtain ⟨hm1, hm2⟩ : c.2.2 0 id 0 = some (m.1 135 0 (f id)) ∧ (m.1 135 0 (f id) = 0 ∨ m.1 135 0 (f id) = 1) := by
    have z := H
    obtain ⟨h_st, h_sx, h_hm, _⟩ := z
    exact h_hm id hv
  have hN := hK
  obtain ⟨n1, n2, n3, n4, n5, n6, n7, n8, n9, n10, n11, n12, n13⟩ := hN
  have hfr := hf.2.2.1 id hv.1 (by have := hv.2.1; omega)
  rcases hs with ⟨s1, s2, rfl, rfl, s5⟩ | ⟨s1, s2, rfl, rfl, s5, s6, s7⟩ | ⟨s1, rfl, rfl⟩
  · have hr : m.1 121 0 s = f id → m.1 112 0 s = 0 := fun z => by
      have zz := H
      obtain ⟨h_st, h_sx, h_hm, h_sa, h_sb, h_gp, h_ky, h_k1, h_fw, h_fr, h_ce, h_an, h_zn, h_rw, h_la, h_lo, h_lr, h_wa, h_wo, h_wx, h_wr, h_w3, h_w4, h_w8, h_w9, h_w5, h_t1, h_t2, h_t3, h_t6, h_t9, h_ty, h_xx, h_zr⟩ := zz
      rw [h_lr s s1 s2, rf_eq hf] at z
      rw [(hl s).1]
      exact (h_wr s id z).2.2.2.2.2
    obtain ⟨m', r1, r2, r3⟩ := m_tellL m (f id) s why ⟨s1, s2⟩ hr
    obtain ⟨c', q1, q2, q3, q4⟩ := f_tellL c id s why
    have hh := t_tellL hf ⟨s1, s2⟩ s5 hv H q2 q3 q4 r3
    have hsc : so w_tell c c' := fun k n j hk => by
      refine ⟨?_, by rw [q2], ?_⟩
      · rw [q4]; simp [w_tell] at hk; grind
      · rw [q3]; simp [w_tell] at hk; grind
    have hsm : so w_tells m m' := fun k n j hk => by
      refine ⟨?_, by rw [r2], by rw [r2]⟩
      rw [r3]; simp [w_tells] at hk; grind
    refine ⟨c', m', q1, r1, r_k_cg (fun k n j hk => ⟨(hsc k n j (w_a5 k j hk)).1, (hsc k n j (w_a5 k j hk)).2.2⟩) (fun k n j hk => (hsm k n j (w_a6 k j hk)).1) hK, ?_, hh, hmono (fun e he => r_m_cg (fun k n j hk => ?_) (fun k n j k1 k2 => ?_) (hm e he)), hsc, hsm, ?_, ?_⟩
    · have zz := H
      obtain ⟨h_st, h_sx, h_hm, h_sa, h_sb, h_gp, h_ky, h_k1, h_fw, h_fr, h_ce, h_an, h_zn, h_rw, h_la, h_lo, h_lr, h_wa, h_wo, h_wx, h_wr, h_w3, h_w4, h_w8, h_w9, h_w5, h_t1, h_t2, h_t3, h_t6, h_t9, h_ty, h_xx, h_zr⟩ := zz
      have e1 : m.1 119 0 s = f id ↔ c.2.2 4 s 11 = some id := by rw [h_la s s1 s2]; exact rf_eq hf _ _
      have e3 : m.1 121 0 s = f id ↔ c.2.2 4 s 13 = some id := by rw [h_lr s s1 s2]; exact rf_eq hf _ _
      intro l
      have hll := hl l
      simp only [r3, q4, e1, e3, n8]
      simp
      grind
    · refine ⟨?_, by rw [q2]⟩
      rw [q4]; grind
    · rw [r3]; grind
    · intro l j i z
      rw [q3] at z
      grind
    · intro t i z
      rw [q3] at z
      grind
  · generalize hE : m.1 135 0 (f id) = e at *
    have hk : 0 ≤ s - 100 ∧ s - 100 < 16 := by omega
    have hnum : c.1 8 (16 * e + s - 100) 0 = s - 100 := by
      have := (n13 e (s - 100) hm2 (by omega) (by omega)).1
      rwa [show 16 * e + (s - 100) = 16 * e + s - 100 by omega] at this
    generalize ht : 16 * e + s - 100 = t at *
    obtain ⟨x, x1, x2⟩ := p_pk3 hk hw (sR (sI c 8 t 2 3) 8 t 3 none)
    have w1 : w32 (16 * e) = 16 * e := w32_of (by omega) (by omega)
    have w2 : w32 (16 * e + s) = 16 * e + s := w32_of (by omega) (by omega)
    have w3 : w32 (16 * e + s - 100) = t := by rw [w32_of (by omega) (by omega)]; exact ht
    have w4 : w32 (s - 100) = s - 100 := w32_of (by omega) (by omega)
    have hb : r_b (sI (sI (m_beg m (s - 100) 4) 12 0 57 3) 156 0 2 why) [(s - 100).toNat, 4, why.toNat] := by
      refine ⟨by simp [rI_I], fun j hj => ?_⟩
      have hj3 : j < 3 := hj
      rcases (by omega : j = 0 ∨ j = 1 ∨ j = 2) with rfl | rfl | rfl
      all_goals simp [m_beg, rI_I]
      all_goals omega
    have hm0 : ∀ e, e = 0 ∨ e = 1 → r_m B (sR (sI c 8 t 2 3) 8 t 3 none) (sI (sI (m_beg m (s - 100) 4) 12 0 57 3) 156 0 2 why) e := fun e' he' => r_m_cg (fun k n j hk => by
        refine ⟨?_, rfl⟩
        simp only [rR_I, rI_I]
        rw [if_neg (by omega)]) (fun k n j k1 k2 => by
        simp only [m_beg, rI_I]
        rw [if_neg (by omega), if_neg (by omega), if_neg (by omega), if_neg (by omega), if_neg (by omega)]) (hm e' he')
    obtain ⟨c', mg', p1, p2, p3, p4, p5, _⟩ := p_post hB hm2 hm0 x2 hb
    have hso : so w_tells m mg' := so_tr (by unfold m_beg; exact so_I (so_I (so_I (so_I (so_I (so_rfl m) rfl _ _) rfl _ _) rfl _ _) rfl _ _) rfl _ _) (so_mono w_a2 p5)
    have hsc : so w_tell c c' := so_tr (so_R (so_I (so_rfl c) rfl _ _) rfl _ _) (so_mono w_a1 p4)
    have hsm : so w_tells m (sI (sI mg' 154 0 t 3) 155 0 t (-1)) := so_I (so_I hso rfl _ _) rfl _ _
    have hg1 : ∀ k n j, rdM k = true → mg'.1 k n j = m.1 k n j := fun k n j hk => by
      rw [(p5 k n j (w_a4 k j hk)).1]
      simp only [m_beg, rI_I]
      simp [rdM] at hk
      rw [if_neg (by omega), if_neg (by omega), if_neg (by omega), if_neg (by omega), if_neg (by omega)]
    have hh1 : r_h f N id z2 X sec Y zd c mg' := r_h_cg (fun k n j _ => ⟨rfl, rfl, rfl⟩) hg1 H
    have hh2 := t_tellT hf (t := t) (by omega) s5 hv s6 s7 hh1
    have hh3 : r_h f N id z2 X sec Y zd c' (sI (sI mg' 154 0 t 3) 155 0 t (-1)) := r_h_cg (fun k n j hk => p4 k n j (w_a3 k j hk)) (fun _ _ _ _ => rfl) hh2
    refine ⟨c', _, ?_, ?_, r_k_cg (fun k n j hk => ⟨(hsc k n j (w_a5 k j hk)).1, (hsc k n j (w_a5 k j hk)).2.2⟩) (fun k n j hk => (hsm k n j (w_a6 k j hk)).1) hK, ?_, hh3, ?_, hsc, hsm, ?_, ?_⟩
    · exact f_tellT hm1 hnum x1 p1
    · exact m_tellT ⟨s1, by omega⟩ hfr hE hm2 ht p2 (by omega)
    · refine r_l_cg (fun k n j hk => ?_) (fun k n j hk => ?_) hl
      · rw [(p4 k n j (w_a7 k j hk)).1]
        simp only [rR_I, rI_I]
        simp [rlC] at hk
        rw [if_neg (by omega)]
      · rw [rI_I, rI_I]
        simp [rlM] at hk
        rw [if_neg (by omega), if_neg (by omega), (p5 k n j (w_a8 k j (by simp [rlM]; exact hk))).1]
        simp only [m_beg, rI_I]
        rw [if_neg (by omega), if_neg (by omega), if_neg (by omega), if_neg (by omega), if_neg (by omega)]
    · exact fun e' he' => r_m_cg (fun _ _ _ _ => ⟨rfl, rfl⟩) (fun k n j k1 k2 => by rw [rI_I, rI_I, if_neg (by omega), if_neg (by omega)]) (p3 e' he')
    · intro l j i z
      rw [(p4 4 l j rfl).2.2, rR_R, if_neg (by omega), rI_R] at z
      exact ⟨z, fun _ q => by cases q⟩
    · intro t' i z
      rw [(p4 8 t' 3 rfl).2.2, rR_R, rI_R] at z
      grind
  · refine ⟨c, m, rfl, ?_, hK, hl, H, hmono hm, so_rfl c, so_rfl m, fun l j i z => ⟨z, fun _ q => by cases q⟩, fun t i z => ⟨z, fun q => by cases q⟩⟩
    unfold F12_tells F12_isCircuit F12_isLineSide F12_isCircuit_17 F12_isLineSide_14
    have q1 : ¬ s < 100 := by omega
    have q2 : ¬ s < 0 := by omega
    have q3 : 16 ≤ s := by omega
    simp [q1, q2, q3, s1]
end RT
