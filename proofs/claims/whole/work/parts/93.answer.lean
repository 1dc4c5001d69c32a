/-! ===== answering ===== -/
def w_l (k : Nat) (j : Int) : Bool := k == 4 && (j == 4 || j == 5 || j == 7 || j == 8 || j == 9 || j == 10 || j == 14 || j == 15 || j == 16 || j == 17 || j == 18 || j == 19)
def w_lm (k : Nat) (_ : Int) : Bool := (decide (113 ≤ k) && decide (k ≤ 118)) || (decide (122 ≤ k) && decide (k ≤ 126)) || k == 130 || k == 131
theorem w_d1 : ∀ k j, rkC k j = true → w_l k j = false := by intro k j; simp [rkC, w_l]; omega
theorem w_d2 : ∀ k j, rkM k j = true → w_lm k j = false := by intro k j; simp [rkM, w_lm]; omega
theorem w_d3 : ∀ k j, rdC k j = true → w_l k j = false := by intro k j; simp [rdC, w_l]; omega
theorem w_d4 : ∀ k (j : Int), rdM k = true → w_lm k j = false := by intro k j; simp [rdM, w_lm]; omega
theorem w_d5 : ∀ k j, rpC k j = true → w_l k j = false := by intro k j; simp [rpC, w_l]; omega
theorem w_d6 : ∀ k (j : Int), rpM k = true → w_lm k j = false := by intro k j; simp [rpM, w_lm]; omega
section RW
variable {f : Int → Int} {N z1 z2 X : Int} {sec : Option Int} {Y zd : Int} {c m c' m' : JM} {B B' : Int} {H : HT}
/-- a step in what lines show -/
theorem rel_l (hf : f_ok f) (R : rel f N z1 z2 X sec Y zd B H c m) (sc : so w_l c c') (sm : so w_lm m m') (R2 : r_l X c' m') : rel f N z1 z2 X sec Y zd B H c' m' := by
  obtain ⟨R1, _, R3, R4, R5, R6, R7, R8, R9, R10⟩ := R
  have c0 : ∀ n j, c'.1 0 n j = c.1 0 n j := fun n j => (sc 0 n j rfl).1
  refine ⟨?_, R2, ?_, ?_, ?_, ?_, ?_, ?_, ?_, ?_⟩
  · exact r_k_cg (fun k n j q => ⟨(sc k n j (w_d1 k j q)).1, (sc k n j (w_d1 k j q)).2.2⟩) (fun k n j q => (sm k n j (w_d2 k j q)).1) R1
  · exact r_h_cg (fun k n j q => sc k n j (w_d3 k j q)) (fun k n j q => (sm k n j (w_d4 k j q)).1) R3
  · exact fun e he => r_m_cg (fun k n j q => by rcases q with rfl | rfl <;> exact ⟨(sc _ n j rfl).1, (sc _ n j rfl).2.1⟩) (fun k n j a b => (sm k n j (by simp [w_lm]; omega)).1) (R4 e he)
  · exact q_cg R5 (fun n => by rw [c0, c0, (sc 0 n 5 rfl).2.2]; simp) hf (fun n j => (sc 2 n j rfl).1) (fun n j => (sc 25 n j rfl).2.2) (fun k j a b => (sm k 0 j (by simp [w_lm]; omega)).1)
  · exact rr_cg R6 (fun s a b => by rw [(sm 133 0 s rfl).1, (sm 135 0 s rfl).1, (sm 137 0 s rfl).1]; simp) (fun e r => (sc 23 e r rfl).1) (sc 11 0 13 rfl).1
  · exact a_cg R7 (fun n => by rw [c0]) (fun j => (sc 40 0 j rfl).2.2) (sc 11 0 11 rfl).1 (sc 11 0 12 rfl).1 (fun j => (sm 134 0 j rfl).1) (sm 12 0 32 rfl).1
  · exact g_cg R8 (fun j => (sc 26 0 j rfl).1) (fun j => (sc 27 0 j rfl).1) (sc 3 0 2 rfl).1 (fun k j a b => (sm k 0 j (by simp [w_lm]; omega)).1) (sm 12 0 90 rfl).1
  · exact r_p_cg (fun k n j q => sc k n j (w_d5 k j q)) (fun k n j q => (sm k n j (w_d6 k j q)).1) R9
  · exact r_f_cg (fun k n j q => sc k n j (w_d5 k j q)) (fun k n j q => (sm k n j (w_d6 k j q)).1) R10
theorem rel_cr (hf : f_ok f) (R : rel f N z1 z2 X sec Y zd B H c m) (l v : Int) : rel f N z1 z2 X sec Y zd B H (sI c 4 l 17 v) (sI m 126 0 l v) := by
  refine rel_l hf R (so_I (so_rfl c) rfl _ _) (so_I (so_rfl m) rfl _ _) (fun x => ?_)
  have := R.2.1 x
  simp only [rI_I]
  grind

theorem t_ce (hf : f_ok f) {id : Int} (HH : r_h f N z1 z2 X sec Y zd c m) (a : Int) : r_h f N z1 z2 X sec Y zd (sI c 0 id 13 a) (sI m 147 0 (f id) a) := by
  have inj := hf.1
  obtain ⟨h_st, h_sx, h_hm, h_sa, h_sb, h_gp, h_ky, h_k1, h_fw, h_fr, h_ce, h_an, h_zn, h_rw, h_la, h_lo, h_lr, h_wa, h_wo, h_wx, h_wr, h_w3, h_w4, h_w8, h_w9, h_w5, h_t1, h_t2, h_t3, h_t6, h_t9, h_ty, h_xx, h_zr⟩ := HH
  refine ⟨?_, ?_, ?_, ?_, ?_, ?_, ?_, ?_, ?_, ?_, ?_, ?_, ?_, ?_, ?_, ?_, ?_, ?_, ?_, ?_, ?_, ?_, ?_, ?_, ?_, ?_, ?_, ?_, ?_, ?_, ?_, ?_, ?_, ?_⟩
  · -- st
    simpa [d_st, lv, rI_I, rI_L, rI_R, rL_I, rL_L, rL_R, rR_I, rR_L, rR_R] using h_st
  · -- sx
    simpa [d_sx, lv, rI_I, rI_L, rI_R, rL_I, rL_L, rL_R, rR_I, rR_L, rR_R] using h_sx
  · -- hm
    simpa [d_hm, lv, rI_I, rI_L, rI_R, rL_I, rL_L, rL_R, rR_I, rR_L, rR_R] using h_hm
  · -- sa
    simpa [d_sa, lv, rI_I, rI_L, rI_R, rL_I, rL_L, rL_R, rR_I, rR_L, rR_R] using h_sa
  · -- sb
    simpa [d_sb, lv, rI_I, rI_L, rI_R, rL_I, rL_L, rL_R, rR_I, rR_L, rR_R] using h_sb
  · -- gp
    simpa [d_gp, lv, rI_I, rI_L, rI_R, rL_I, rL_L, rL_R, rR_I, rR_L, rR_R] using h_gp
  · -- ky
    simpa [d_ky, lv, rI_I, rI_L, rI_R, rL_I, rL_L, rL_R, rR_I, rR_L, rR_R] using h_ky
  · -- k1
    simpa [d_k1, lv, rI_I, rI_L, rI_R, rL_I, rL_L, rL_R, rR_I, rR_L, rR_R] using h_k1
  · -- fw
    simpa [d_fw, lv, rI_I, rI_L, rI_R, rL_I, rL_L, rL_R, rR_I, rR_L, rR_R] using h_fw
  · -- fr
    simpa [d_fr, lv, rI_I, rI_L, rI_R, rL_I, rL_L, rL_R, rR_I, rR_L, rR_R] using h_fr
  · -- ce
    simp only [d_ce, lv, rI_I, rI_L, rI_R, rL_I, rL_L, rL_R, rR_I, rR_L, rR_R] at h_ce ⊢; grind [rf]
  · -- an
    simpa [d_an, lv, rI_I, rI_L, rI_R, rL_I, rL_L, rL_R, rR_I, rR_L, rR_R] using h_an
  · -- zn
    simpa [d_zn, lv, rI_I, rI_L, rI_R, rL_I, rL_L, rL_R, rR_I, rR_L, rR_R] using h_zn
  · -- rw
    simpa [d_rw, lv, rI_I, rI_L, rI_R, rL_I, rL_L, rL_R, rR_I, rR_L, rR_R] using h_rw
  · -- la
    simpa [d_la, lv, rI_I, rI_L, rI_R, rL_I, rL_L, rL_R, rR_I, rR_L, rR_R] using h_la
  · -- lo
    simpa [d_lo, lv, rI_I, rI_L, rI_R, rL_I, rL_L, rL_R, rR_I, rR_L, rR_R] using h_lo
  · -- lr
    simpa [d_lr, lv, rI_I, rI_L, rI_R, rL_I, rL_L, rL_R, rR_I, rR_L, rR_R] using h_lr
  · -- wa
    simpa [d_wa, lv, rI_I, rI_L, rI_R, rL_I, rL_L, rL_R, rR_I, rR_L, rR_R] using h_wa
  · -- wo
    simpa [d_wo, lv, rI_I, rI_L, rI_R, rL_I, rL_L, rL_R, rR_I, rR_L, rR_R] using h_wo
  · -- wx
    simpa [d_wx, lv, rI_I, rI_L, rI_R, rL_I, rL_L, rL_R, rR_I, rR_L, rR_R] using h_wx
  · -- wr
    simpa [d_wr, lv, rI_I, rI_L, rI_R, rL_I, rL_L, rL_R, rR_I, rR_L, rR_R] using h_wr
  · -- w3
    simpa [d_w3, lv, rI_I, rI_L, rI_R, rL_I, rL_L, rL_R, rR_I, rR_L, rR_R] using h_w3
  · -- w4
    simpa [d_w4, lv, rI_I, rI_L, rI_R, rL_I, rL_L, rL_R, rR_I, rR_L, rR_R] using h_w4
  · -- w8
    simpa [d_w8, lv, rI_I, rI_L, rI_R, rL_I, rL_L, rL_R, rR_I, rR_L, rR_R] using h_w8
  · -- w9
    simpa [d_w9, lv, rI_I, rI_L, rI_R, rL_I, rL_L, rL_R, rR_I, rR_L, rR_R] using h_w9
  · -- w5
    simpa [d_w5, lv, rI_I, rI_L, rI_R, rL_I, rL_L, rL_R, rR_I, rR_L, rR_R] using h_w5
  · -- t1
    simpa [d_t1, lv, rI_I, rI_L, rI_R, rL_I, rL_L, rL_R, rR_I, rR_L, rR_R] using h_t1
  · -- t2
    simpa [d_t2, lv, rI_I, rI_L, rI_R, rL_I, rL_L, rL_R, rR_I, rR_L, rR_R] using h_t2
  · -- t3
    simpa [d_t3, lv, rI_I, rI_L, rI_R, rL_I, rL_L, rL_R, rR_I, rR_L, rR_R] using h_t3
  · -- t6
    simpa [d_t6, lv, rI_I, rI_L, rI_R, rL_I, rL_L, rL_R, rR_I, rR_L, rR_R] using h_t6
  · -- t9
    simpa [d_t9, lv, rI_I, rI_L, rI_R, rL_I, rL_L, rL_R, rR_I, rR_L, rR_R] using h_t9
  · -- ty
    simpa [d_ty, lv, rI_I, rI_L, rI_R, rL_I, rL_L, rL_R, rR_I, rR_L, rR_R] using h_ty
  · -- xx
    simpa [d_xx, lv, rI_I, rI_L, rI_R, rL_I, rL_L, rL_R, rR_I, rR_L, rR_R] using h_xx
  · -- zr
    simpa [d_zr, lv, rI_I, rI_L, rI_R, rL_I, rL_L, rL_R, rR_I, rR_L, rR_R] using h_zr

theorem rel_ce (hf : f_ok f) {id : Int} (R : rel f N z1 z2 X sec Y zd B H c m) (a : Int) : rel f N z1 z2 X sec Y zd B H (sI c 0 id 13 a) (sI m 147 0 (f id) a) := by
  refine rel_h hf R (t_ce hf R.2.2.1 a) (so_I (so_rfl c) rfl _ _) (so_I (so_rfl m) rfl _ _) (fun n => ?_) (fun s s0 s1 => ?_)
  · simp [rI_I, rI_R]
  · simp [rI_I]
/-- the relation between public calls: nothing is exempt -/
def relN (f : Int → Int) (N B : Int) (H : HT) (c m : JM) : Prop := rel f N (-1) (-1) (-1) none (-1) (-1) B H c m
theorem r_h_z (HH : r_h f N (-1) z2 X sec Y zd c m) (z : Int) : r_h f N z z2 X sec Y zd c m := by
  obtain ⟨h_st, h_sx, h_hm, h_sa, h_sb, h_gp, h_ky, h_k1, h_fw, h_fr, h_ce, h_an, h_zn, h_rw, h_la, h_lo, h_lr, h_wa, h_wo, h_wx, h_wr, h_w3, h_w4, h_w8, h_w9, h_w5, h_t1, h_t2, h_t3, h_t6, h_t9, h_ty, h_xx, h_zr⟩ := HH
  refine ⟨?_, ?_, ?_, ?_, ?_, ?_, ?_, ?_, ?_, ?_, ?_, ?_, ?_, ?_, ?_, ?_, ?_, ?_, ?_, ?_, ?_, ?_, ?_, ?_, ?_, ?_, ?_, ?_, ?_, ?_, ?_, ?_, ?_, ?_⟩
  · -- st
    exact h_st
  · -- sx
    exact h_sx
  · -- hm
    exact h_hm
  · -- sa
    exact h_sa
  · -- sb
    exact h_sb
  · -- gp
    exact h_gp
  · -- ky
    exact h_ky
  · -- k1
    exact h_k1
  · -- fw
    exact h_fw
  · -- fr
    exact h_fr
  · -- ce
    exact h_ce
  · -- an
    exact h_an
  · -- zn
    exact h_zn
  · -- rw
    exact h_rw
  · -- la
    exact h_la
  · -- lo
    exact h_lo
  · -- lr
    exact h_lr
  · -- wa
    exact h_wa
  · -- wo
    exact h_wo
  · -- wx
    exact h_wx
  · -- wr
    exact h_wr
  · -- w3
    exact h_w3
  · -- w4
    exact fun i l a b d e => h_w4 i l a (by have := a.1; omega) d e
  · -- w8
    exact h_w8
  · -- w9
    exact h_w9
  · -- w5
    exact fun i l a b d e g h => h_w5 i l a (by have := a.1; omega) d e g h
  · -- t1
    exact h_t1
  · -- t2
    exact h_t2
  · -- t3
    exact h_t3
  · -- t6
    exact fun i t a b d e => h_t6 i t a (by have := a.1; omega) d e
  · -- t9
    exact h_t9
  · -- ty
    exact h_ty
  · -- xx
    exact h_xx
  · -- zr
    exact h_zr

theorem rel_z (R : rel f N (-1) z2 X sec Y zd B H c m) (z : Int) : rel f N z z2 X sec Y zd B H c m := ⟨R.1, R.2.1, r_h_z R.2.2.1 z, R.2.2.2⟩
/-- a call ends, by nobody -/
theorem p_end0 (hf : f_ok f) (hB : B + 10 < 2000000000) {id why : Int} (hw : 0 ≤ why ∧ why < 256) (hv : lv c id) (R : rel f N (-1) (-1) (-1) none Y zd B H c m) :
    ∃ c' m', F11_end (some id) why 0 c = some c' ∧ F12_over (f id) why (-1) m = some m' ∧ rel f N (-1) (-1) (-1) none Y zd (B + 3) H c' m' ∧ so w_C c c' ∧ so w_M m m' ∧ (∀ n j, c'.1 0 n j = if n = id ∧ j = 9 then -1 else c.1 0 n j) := by
  have i0 := hv.1
  have hsa := R.2.2.1.2.2.2.1 id hv
  have hsb := R.2.2.1.2.2.2.2.1 id hv
  have hhm := R.2.2.1.2.2.1 id hv
  have ht6 := R.2.2.1.2.2.2.2.2.2.2.2.2.2.2.2.2.2.2.2.2.2.2.2.2.2.2.2.2.2.2.2.2.1 id
  obtain ⟨c', m', e1, e2, e3, e4, e5, e6⟩ := p_end (why := why) (w := 0) (w' := -1) hf hB (-1) hw hv (rel_z R id) (by simp) (Or.inl ⟨rfl, rfl⟩)
    (fun _ => by rcases hsa with ⟨a, _⟩ | ⟨a, _⟩ <;> rw [a] <;> simp <;> omega)
    (fun _ => by rcases hsb with ⟨_, a, _⟩ | ⟨_, _, a, _⟩ | ⟨_, _, a, _⟩ | ⟨_, _, a, _⟩ | ⟨_, _, a, _⟩ <;> rw [a] <;> simp <;> omega)
    (fun _ t q => ht6 t hv (by omega) (by omega) (Or.inl q)) (fun _ t q => ht6 t hv (by omega) (by omega) (Or.inr q)) (by omega) (by omega)
  exact ⟨c', m', e1, e2, e3, so_mono w_b5 e4, so_mono w_b6 e5, e6⟩
def pr (m : JM) (z : Int) : Int := if 800 ≤ m.1 12 0 2 % 2400 then m.1 188 0 z else m.1 189 0 z
/-- a call that talks pays, or is over -/
theorem p_pay (hf : f_ok f) (hB : B + 10 < 2000000000) {id l fi am : Int} (hv : lv c id) (hl : c.2.2 0 id 1 = some l) (h3 : c.1 0 id 9 = 3) (R : rel f N (-1) (-1) (-1) none Y zd B H c m) (hfi : (fi = 0 ∧ am = pr m (m.1 143 0 (f id))) ∨ (fi = 1 ∧ am = w32 (m.1 186 0 (m.1 143 0 (f id)) + pr m (m.1 143 0 (f id))))) :
    ∃ ok c1 c' m', F3_charge (some id) fi (c.1 11 0 10) c = some (ok, c1) ∧ ((ok = 1 ∧ c' = c1) ∨ (ok = 0 ∧ F11_end (some id) 5 0 c1 = some c')) ∧ F12_charges (f id) am m = some m' ∧ rel f N (-1) (-1) (-1) none Y zd (B + 3) H c' m' ∧ so w_C c c' ∧ so w_M m m' := by
  have hfr := hf.2.2.1 id hv.1 (by have := hv.2.1; omega)
  have hsa := R.2.2.1.2.2.2.1 id hv
  have hhm := R.2.2.1.2.2.1 id hv
  have hzn := R.2.2.1.2.2.2.2.2.2.2.2.2.2.2.2.1 id hv (by rw [hl]; simp)
  have hce := R.2.2.1.2.2.2.2.2.2.2.2.2.2.1 id hv
  have hg := R.2.2.2.2.2.2.2.1.1
  obtain ⟨_, _, _, _, _, _, _, t1, t2, t3, _⟩ := R.1
  have hl2 := R.2.1 l
  obtain ⟨a1, a2⟩ : l = m.1 136 0 (f id) ∧ 0 ≤ l ∧ l < 16 := by
    rcases hsa with ⟨a, _⟩ | ⟨a, _⟩
    · rw [hl] at a; cases a; omega
    · rw [hl] at a; cases a
  obtain ⟨z1, z2, z3⟩ : m.1 143 0 (f id) = c.1 0 id 11 ∧ 0 ≤ c.1 0 id 11 ∧ c.1 0 id 11 ≤ 3 := by omega
  obtain ⟨g1, g2, g3, g4, g5, g6, g7, g8, g9, g10, g11, g12⟩ := hg (c.1 0 id 11) z2 (by omega)
  have x1 : w32 (c.1 0 id 11 * 4) = 4 * c.1 0 id 11 := by rw [w32_of (by omega) (by omega)]; omega
  have x2 : w32 (4 * c.1 0 id 11 + 2) = 4 * c.1 0 id 11 + 2 := w32_of (by omega) (by omega)
  have x3 : w32 (4 * c.1 0 id 11 + 3) = 4 * c.1 0 id 11 + 3 := w32_of (by omega) (by omega)
  have x4 : j_rem (c.1 11 0 10) 2400 = c.1 11 0 10 % 2400 := i_rem t2 (by omega) (by omega) (by omega)
  have x5 : m.1 126 0 l = c.1 4 l 17 := hl2.2.2.2.2.2.2.2.2.2.2.1
  -- the class comes to the amount
  have k71 : F3_charge (some id) fi (c.1 11 0 10) c = F3_charge_71 (some id) (some l) am c := by
    have key : ∀ p, (if 800 ≤ c.1 11 0 10 % 2400 then c.1 26 0 (4 * c.1 0 id 11 + 2) else c.1 26 0 (4 * c.1 0 id 11 + 3)) = p → F3_charge_53 (some id) fi (some l) (4 * c.1 0 id 11) p c = F3_charge_71 (some id) (some l) am c := fun p hp => by
      have hp2 : p = pr m (m.1 143 0 (f id)) := by rw [← hp]; unfold pr; rw [z1, t1, g3, g4]
      unfold F3_charge_53
      rcases hfi with ⟨rfl, q⟩ | ⟨rfl, q⟩
      · rw [if_pos rfl, q, hp2]
      · rw [if_neg (by decide), g_t (by omega), lt_d, g1, q, hp2, z1, Int.add_comm]
    unfold F3_charge
    rw [Option.bind_some, if_neg (by rw [hl]; simp), lt_d, x1, x2, x3, x4, hl]
    by_cases q : 800 ≤ c.1 11 0 10 % 2400
    · rw [if_pos q, g_t (by omega)]
      exact key _ (by rw [if_pos q])
    · rw [if_neg q, g_t (by omega)]
      exact key _ (by rw [if_neg q])
  rw [k71]
  have ep : ∀ m1 : JM, m1.1 126 0 l = -1 ∨ am ≤ m1.1 126 0 l → F12_charges (f id) am m1 = F12_charges (f id) am m1 := fun _ _ => rfl
  unfold F3_charge_71 F12_charges
  rw [Option.bind_some, g_t hfr]
  simp only [lt_d]
  rw [← a1, g_t a2]
  simp only [x5]
  have c55 : ∀ v w : Int, ∀ c1 m1 : JM, c1.1 0 id 13 = m1.1 147 0 (f id) → F3_charge_104 (some id) am c1 = some (1, sI c1 0 id 13 (w32 (c1.1 0 id 13 + am))) ∧ F12_charges_55 (f id) am m1 = some (sI m1 147 0 (f id) (w32 (c1.1 0 id 13 + am))) := fun v w c1 m1 e => by
    unfold F3_charge_104 F12_charges_55
    rw [Option.bind_some, lt_d, g_t hfr, g_t hfr, lt_d, e]
    exact ⟨rfl, rfl⟩
  by_cases n1 : c.1 4 l 17 = -1
  · rw [if_pos n1, if_pos n1]
    unfold F12_charges_35
    rw [g_t a2, x5, if_pos n1]
    obtain ⟨e1, e2⟩ := c55 0 0 c m hce.symm
    rw [e1, e2]
    refine ⟨1, _, _, _, rfl, Or.inl ⟨rfl, rfl⟩, rfl, rel_mono (by omega) (rel_ce hf R _), so_I (so_rfl c) rfl _ _, so_I (so_rfl m) rfl _ _⟩
  · rw [if_neg n1, if_neg n1, g_t a2]
    by_cases n2 : am ≤ c.1 4 l 17
    · rw [if_pos n2, if_pos n2]
      unfold F12_charges_35
      rw [g_t a2, x5, if_neg n1, g_t a2, g_t a2, lt_d]
      obtain ⟨e1, e2⟩ := c55 0 0 (sI c 4 l 17 (w32 (c.1 4 l 17 - am))) (sI m 126 0 l (w32 (c.1 4 l 17 - am))) (by rw [rI_I, rI_I, if_neg (by omega), if_neg (by omega), hce])
      rw [e1, e2]
      refine ⟨1, _, _, _, rfl, Or.inl ⟨rfl, rfl⟩, rfl, rel_mono (by omega) (rel_ce hf (rel_cr hf R l _) _), so_I (so_I (so_rfl c) rfl _ _) rfl _ _, so_I (so_I (so_rfl m) rfl _ _) rfl _ _⟩
    · rw [if_neg n2, if_neg n2]
      obtain ⟨c', m', e1, e2, e3, e4, e5, _⟩ := p_end0 (why := 5) hf hB (by omega) hv R
      exact ⟨0, c, c', m', rfl, Or.inr ⟨rfl, e1⟩, by rw [e2, Option.bind_some], e3, e4, e5⟩
/-- the reference's call s talks from now on -/
def m_talk (m : JM) (s : Int) : JM := sI (sI (sI (sI m 133 0 s 3) 145 0 s (m.1 12 0 2)) 138 0 s (-1)) 146 0 s (m.1 12 0 2)
def c_talk (c : JM) (id : Int) : JM := sI (sI c 0 id 9 3) 0 id 10 (c.1 11 0 10)
/-- an answer -/
theorem p_answer (hf : f_ok f) (hB : B + 20 < 2000000000) {id : Int} (hi : 0 ≤ id ∧ id < 72) (R : relN f N B H (c_talk c id) (m_talk m (f id))) :
    ∃ r c1 c' m', F11_answer (some id) c = some (r, c1) ∧ ((r = 0 ∧ c' = c1) ∨ (r = 5 ∧ F11_end (some id) 5 0 c1 = some c')) ∧ F12_answered (f id) m = some m' ∧ relN f N (B + 5) H c' m' ∧ so w_C c c' ∧ so w_M m m' := by
  have hfr := hf.2.2.1 id hi.1 (by omega)
  have hv : lv (c_talk c id) id := ⟨hi.1, hi.2, by simp [c_talk, rI_I]⟩
  have hA := s_A_of hf hv R.1 R.2.2.1
  have han := R.2.2.1.2.2.2.2.2.2.2.2.2.2.2.1 id hv
  have hnow : m.1 12 0 2 = c.1 11 0 10 := by have := R.1.2.2.2.2.2.2.2.1; simpa [c_talk, m_talk, rI_I] using this
  have hA' : s_A N id (f id) (c_talk c id) m := by
    unfold s_A at hA ⊢
    simpa [m_talk, rI_I] using hA
  obtain ⟨a, c2, m2, p1, p2, p3, p4, p4b, p5, p6⟩ := w_ann (B := B) (m := m) (c := c_talk c id) (by omega) hA' (by have := han.1; simpa [m_talk, rI_I] using this) han.2.1 (fun e he => r_m_cg (m := m_talk m (f id)) (fun _ _ _ _ => ⟨rfl, rfl⟩) (fun k n j a b => by simp only [m_talk, rI_I]; grind) (R.2.2.2.1 e he))
  have m212 : m2.1 12 0 2 = m.1 12 0 2 := by rw [(p6 12 0 2 rfl).1, rI_I, if_neg (by omega)]
  have e2 : F12_answered (f id) m = (F12_acm (f id) m).bind (fun h1 => (some (m_talk h1 (f id))).bind (fun h4 => (F12_isCircuit (h4.1 136 0 (f id)) h4).bind (fun q5 =>
     if q5.1 = 0 then (
     g_ ((0 : Int) ≤ f id ∧ f id < (80 : Int)) (
     g_ ((0 : Int) ≤ q5.2.1 143 0 (f id) ∧ q5.2.1 143 0 (f id) < (4 : Int)) (
     g_ ((0 : Int) ≤ f id ∧ f id < (80 : Int)) (
     (F12_price (q5.2.1 143 0 (f id)) q5.2).bind (fun q6 =>
     (F12_charges (f id) (w32 ((q5.2.1 186 0 (q5.2.1 143 0 (f id))) + q6.1)) q6.2).bind (fun h7 =>
     some h7)))))) else (
     g_ ((0 : Int) ≤ f id ∧ f id < (80 : Int)) (
     (F12_begins (w32 ((q5.2.1 136 0 (f id)) - 100)) 3 q5.2).bind (fun h8 =>
     g_ ((0 : Int) ≤ f id ∧ f id < (80 : Int)) (
     (F12_goes (h8.1 135 0 (f id)) h8).bind (fun h9 =>
     some h9)))))))) := by
    unfold F12_answered F12_becomes
    simp only [g_t hfr, lt_d, Option.bind_some, m_talk]
    simp [rI_I]
  have R2 : relN f N (B + 1) H c2 (m_talk m2 (f id)) := by
    refine rel_post hf (rel_ann hf hv R a p4 p4b) p5 (fun k n j q => ?_) (by omega) (fun e he => r_m_cg (fun _ _ _ _ => ⟨rfl, rfl⟩) (fun k n j a b => by simp only [m_talk, rI_I]; grind) (p3 e he))
    have := p6 k n j q
    simp only [rI_I, rI_L, rI_R, m_talk, m212] at this ⊢
    grind
  have hv2 : lv c2 id := ⟨hi.1, hi.2, by rw [(p5 0 id 9 rfl).1]; simp [c_talk, rI_I]⟩
  have h32 : c2.1 0 id 9 = 3 := by rw [(p5 0 id 9 rfl).1]; simp [c_talk, rI_I]
  have hA2 := s_A_of hf hv2 R2.1 R2.2.2.1
  have hsa2 := R2.2.2.1.2.2.2.1 id hv2
  have sc2 : so w_C c c2 := so_tr (so_I (so_I (so_I (so_rfl c) rfl _ _) rfl _ _) rfl _ _) (so_mono w_b3 p5)
  have sm2 : so w_M m (m_talk m2 (f id)) := so_I (so_I (so_I (so_I (so_tr (so_I (so_rfl m) rfl _ _) (so_mono w_b4 p6)) rfl _ _) rfl _ _) rfl _ _) rfl _ _
  have ec : F11_answer (some id) c = (F11_announce (some id) (c_talk c id)).bind (fun h2 =>
     if h2.2.2 0 id 2 = none then (
     (F3_charge (some id) 1 (h2.1 11 0 10) h2).bind (fun q4 =>
     if q4.1 = 0 then (
     some (5, q4.2)) else (
     some (0, q4.2)))) else (
     (h2.2.2 0 id 0).bind (fun a5 =>
     (h2.2.2 0 id 2).bind (fun a6 =>
     (F9_pack 3 (h2.1 8 a6 0) 0 h2).bind (fun q7 =>
     (F5_post a5 q7.1 q7.2).bind (fun h8 =>
     some (0, h8))))))) := by
    unfold F11_answer F11_enter
    simp only [lt_d, Option.bind_some, c_talk]
    simp [rI_I]
  rw [ec, e2, p1, p2, Option.bind_some, Option.bind_some, Option.bind_some]
  generalize hM : m_talk m2 (f id) = mm at *
  obtain ⟨s0, s1, e01, hh, hs⟩ := hA2
  rcases hs with ⟨a1, a2, a3⟩ | ⟨a1, a2, a3, a4, a5⟩
  · have q1 : F12_isCircuit (mm.1 136 0 (f id)) mm = some (0, mm) := by
      unfold F12_isCircuit F12_isCircuit_17
      rw [if_pos (by omega)]
    have hl : c2.2.2 0 id 1 = some (mm.1 136 0 (f id)) := by
      rcases hsa2 with ⟨b1, _⟩ | ⟨_, b2, _⟩
      · exact b1
      · rw [a1] at b2; cases b2
    have hzn := R2.2.2.1.2.2.2.2.2.2.2.2.2.2.2.2.1 id hv2 (by rw [hl]; simp)
    have hz : 0 ≤ mm.1 143 0 (f id) ∧ mm.1 143 0 (f id) < 4 := by omega
    have hpr : F12_price (mm.1 143 0 (f id)) mm = some (pr mm (mm.1 143 0 (f id)), mm) := by
      have t := R2.1.2.2.2.2.2.2.2
      unfold F12_price pr
      rw [i_rem (by omega) (by omega) (by omega) (by omega), g_t hz, g_t hz]
      split <;> rfl
    obtain ⟨ok, c1, c', m', y1, y2, y3, y4, y5, y6⟩ := p_pay (fi := 1) hf (by omega) hv2 hl h32 R2 (Or.inr ⟨rfl, rfl⟩)
    rw [if_pos a1, y1, Option.bind_some, q1, Option.bind_some, if_pos rfl, g_t hfr, g_t hz, g_t hfr, hpr, Option.bind_some, y3, Option.bind_some]
    rcases y2 with ⟨rfl, rfl⟩ | ⟨rfl, y2⟩
    · exact ⟨0, c', c', m', rfl, Or.inl ⟨rfl, rfl⟩, rfl, rel_mono (by omega) y4, so_tr sc2 y5, so_tr sm2 y6⟩
    · exact ⟨5, c1, c', m', rfl, Or.inr ⟨rfl, y2⟩, rfl, rel_mono (by omega) y4, so_tr sc2 y5, so_tr sm2 y6⟩
  · have q1 : F12_isCircuit (mm.1 136 0 (f id)) mm = some (1, mm) := by
      unfold F12_isCircuit
      rw [if_neg (by omega), if_neg (by omega)]
    obtain ⟨x, c', m', mb, y1, y2, y3, y4, y5, y6, y7, y8⟩ := w_post2 (c := c2) (m := mm) (B := B + 1) 3 (Or.inr (Or.inl rfl)) (by omega) e01 (k := mm.1 136 0 (f id) - 100) (by omega) R2.2.2.2.1
    rw [show ((3 : Nat) : Int) = 3 from rfl] at y1 y3
    rw [if_neg (by rw [a1]; simp), hh, Option.bind_some, a1, Option.bind_some, a5, y1, Option.bind_some, y2, Option.bind_some, q1, Option.bind_some, if_neg (show ¬ ((1 : Int) = 0) by decide), g_t hfr]
    dsimp only
    rw [w32_of (show -2147483648 ≤ mm.1 136 0 (f id) - 100 by omega) (by omega), y3, Option.bind_some, g_t hfr, y4, y5, Option.bind_some]
    exact ⟨0, c', c', m', rfl, Or.inl ⟨rfl, rfl⟩, rfl, rel_mono (by omega) (rel_post (B' := B + 1 + 1) hf R2 y7 y8 (by omega) y6), so_tr sc2 (so_mono w_b3 y7), so_tr sm2 (so_mono w_b4 y8)⟩
theorem r_h_zd {id : Int} (HH : r_h f N z1 z2 X sec Y id c m) (ky : lv c id → k_R (c.2.1 0 id 8) (m.1 140 0 (f id)) (fun j => m.1 139 0 (12 * f id + j))) (k1 : lv c id → (c.1 0 id 9 = 0 → m.1 140 0 (f id) ≤ 11) ∧ c.1 0 id 12 ≤ 5) (gp : lv c id → m.1 138 0 (f id) = -1 → c.1 0 id 9 ≤ 2 → c.2.2 0 id 5 = none) (an : lv c id → c.1 0 id 9 = 2 ∨ c.1 0 id 9 = 4 → c.2.2 0 id 2 ≠ none → c.1 0 id 15 = 1) (zn : lv c id → c.1 0 id 9 = 0 → c.2.2 0 id 1 ≠ none → m.1 143 0 (f id) = -1) : r_h f N z1 z2 X sec Y zd c m := by
  obtain ⟨h_st, h_sx, h_hm, h_sa, h_sb, h_gp, h_ky, h_k1, h_fw, h_fr, h_ce, h_an, h_zn, h_rw, h_la, h_lo, h_lr, h_wa, h_wo, h_wx, h_wr, h_w3, h_w4, h_w8, h_w9, h_w5, h_t1, h_t2, h_t3, h_t6, h_t9, h_ty, h_xx, h_zr⟩ := HH
  refine ⟨?_, ?_, ?_, ?_, ?_, ?_, ?_, ?_, ?_, ?_, ?_, ?_, ?_, ?_, ?_, ?_, ?_, ?_, ?_, ?_, ?_, ?_, ?_, ?_, ?_, ?_, ?_, ?_, ?_, ?_, ?_, ?_, ?_, ?_⟩
  · -- st
    exact h_st
  · -- sx
    exact h_sx
  · -- hm
    exact h_hm
  · -- sa
    exact h_sa
  · -- sb
    exact h_sb
  · -- gp
    intro i a
    by_cases z : i = id
    · subst z
      rcases h_gp i a with ⟨q1, q2⟩ | q
      · exact Or.inl ⟨q1, fun w _ => gp a q1 w⟩
      · exact Or.inr q
    · rcases h_gp i a with ⟨q1, q2⟩ | q
      · exact Or.inl ⟨q1, fun w _ => q2 w z⟩
      · exact Or.inr q
  · -- ky
    intro i a b
    by_cases z : i = id
    · subst z; exact ky a
    · exact h_ky i a z
  · -- k1
    intro i a b
    by_cases z : i = id
    · subst z; exact k1 a
    · exact h_k1 i a z
  · -- fw
    exact h_fw
  · -- fr
    exact h_fr
  · -- ce
    exact h_ce
  · -- an
    intro i a
    obtain ⟨q1, q2, q3⟩ := h_an i a
    refine ⟨q1, q2, fun w _ => ?_⟩
    by_cases z : i = id
    · subst z; exact an a w
    · exact q3 w z
  · -- zn
    intro i a b
    rcases h_zn i a b with q | ⟨q1, q2, q3, q4⟩
    · exact Or.inl q
    · by_cases z : c.1 0 i 9 = 0
      · have e := q4 z
        subst e
        exact Or.inl ⟨zn a z b, z⟩
      · exact Or.inr ⟨q1, q2, q3, fun w => absurd w z⟩
  · -- rw
    exact h_rw
  · -- la
    exact h_la
  · -- lo
    exact h_lo
  · -- lr
    exact h_lr
  · -- wa
    exact h_wa
  · -- wo
    exact h_wo
  · -- wx
    exact h_wx
  · -- wr
    exact h_wr
  · -- w3
    exact h_w3
  · -- w4
    exact h_w4
  · -- w8
    exact h_w8
  · -- w9
    exact h_w9
  · -- w5
    exact h_w5
  · -- t1
    exact h_t1
  · -- t2
    exact h_t2
  · -- t3
    exact h_t3
  · -- t6
    exact h_t6
  · -- t9
    exact h_t9
  · -- ty
    exact h_ty
  · -- xx
    exact h_xx
  · -- zr
    exact h_zr

theorem rel_zd {id : Int} (R : rel f N z1 z2 X sec Y id B H c m) (ky : lv c id → k_R (c.2.1 0 id 8) (m.1 140 0 (f id)) (fun j => m.1 139 0 (12 * f id + j))) (k1 : lv c id → (c.1 0 id 9 = 0 → m.1 140 0 (f id) ≤ 11) ∧ c.1 0 id 12 ≤ 5) (gp : lv c id → m.1 138 0 (f id) = -1 → c.1 0 id 9 ≤ 2 → c.2.2 0 id 5 = none) (an : lv c id → c.1 0 id 9 = 2 ∨ c.1 0 id 9 = 4 → c.2.2 0 id 2 ≠ none → c.1 0 id 15 = 1) (zn : lv c id → c.1 0 id 9 = 0 → c.2.2 0 id 1 ≠ none → m.1 143 0 (f id) = -1) : rel f N z1 z2 X sec Y zd B H c m := ⟨R.1, R.2.1, r_h_zd R.2.2.1 ky k1 gp an zn, R.2.2.2⟩
theorem r_h_zn (HH : r_h f N z1 z2 X sec Y (-1) c m) (z : Int) : r_h f N z1 z2 X sec Y z c m := by
  obtain ⟨h_st, h_sx, h_hm, h_sa, h_sb, h_gp, h_ky, h_k1, h_fw, h_fr, h_ce, h_an, h_zn, h_rw, h_la, h_lo, h_lr, h_wa, h_wo, h_wx, h_wr, h_w3, h_w4, h_w8, h_w9, h_w5, h_t1, h_t2, h_t3, h_t6, h_t9, h_ty, h_xx, h_zr⟩ := HH
  refine ⟨?_, ?_, ?_, ?_, ?_, ?_, ?_, ?_, ?_, ?_, ?_, ?_, ?_, ?_, ?_, ?_, ?_, ?_, ?_, ?_, ?_, ?_, ?_, ?_, ?_, ?_, ?_, ?_, ?_, ?_, ?_, ?_, ?_, ?_⟩
  · -- st
    exact h_st
  · -- sx
    exact h_sx
  · -- hm
    exact h_hm
  · -- sa
    exact h_sa
  · -- sb
    exact h_sb
  · -- gp
    intro i a
    have := a.1
    rcases h_gp i a with ⟨q1, q2⟩ | q
    · exact Or.inl ⟨q1, fun w _ => q2 w (by omega)⟩
    · exact Or.inr q
  · -- ky
    exact fun i a b => h_ky i a (by have := a.1; omega)
  · -- k1
    exact fun i a b => h_k1 i a (by have := a.1; omega)
  · -- fw
    exact h_fw
  · -- fr
    exact h_fr
  · -- ce
    exact h_ce
  · -- an
    intro i a
    have := a.1
    obtain ⟨q1, q2, q3⟩ := h_an i a
    exact ⟨q1, q2, fun w _ => q3 w (by omega)⟩
  · -- zn
    intro i a b
    have := a.1
    rcases h_zn i a b with q | ⟨q1, q2, q3, q4⟩
    · exact Or.inl q
    · exact Or.inr ⟨q1, q2, q3, fun w => by have := q4 w; omega⟩
  · -- rw
    exact h_rw
  · -- la
    exact h_la
  · -- lo
    exact h_lo
  · -- lr
    exact h_lr
  · -- wa
    exact h_wa
  · -- wo
    exact h_wo
  · -- wx
    exact h_wx
  · -- wr
    exact h_wr
  · -- w3
    exact h_w3
  · -- w4
    exact h_w4
  · -- w8
    exact h_w8
  · -- w9
    exact h_w9
  · -- w5
    exact h_w5
  · -- t1
    exact h_t1
  · -- t2
    exact h_t2
  · -- t3
    exact h_t3
  · -- t6
    exact h_t6
  · -- t9
    exact h_t9
  · -- ty
    exact h_ty
  · -- xx
    exact h_xx
  · -- zr
    exact h_zr

theorem rel_zn (R : rel f N z1 z2 X sec Y (-1) B H c m) (z : Int) : rel f N z1 z2 X sec Y z B H c m := ⟨R.1, R.2.1, r_h_zn R.2.2.1 z, R.2.2.2⟩
end RW
