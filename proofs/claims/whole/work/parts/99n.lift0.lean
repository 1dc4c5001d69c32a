/-! ===== a line is lifted: a new call ===== -/
section SH
variable {f : Int → Int} {N z1 z2 X : Int} {sec : Option Int} {Y zd : Int} {c m c' m' : JM} {B B' : Int} {H : HT}

theorem t_up (hf : f_ok f) {l : Int} (h13 : c.2.2 4 l 13 = none) (HH : r_h f N z1 z2 X sec Y zd c m) :
    r_h f N z1 z2 X sec Y zd (sI c 4 l 6 1) (m) := by
  have inj := hf.1
  have hlv : ∀ i, lv (sI c 4 l 6 1) i ↔ lv c i := fun i => by simp [lv, rI_I]
  obtain ⟨h_st, h_sx, h_hm, h_sa, h_sb, h_gp, h_ky, h_k1, h_fw, h_fr, h_ce, h_an, h_zn, h_rw, h_la, h_lo, h_lr, h_wa, h_wo, h_wx, h_wr, h_w3, h_w4, h_w8, h_w9, h_w5, h_t1, h_t2, h_t3, h_t6, h_t9, h_ty, h_xx, h_zr⟩ := HH
  refine ⟨?_, ?_, ?_, ?_, ?_, ?_, ?_, ?_, ?_, ?_, ?_, ?_, ?_, ?_, ?_, ?_, ?_, ?_, ?_, ?_, ?_, ?_, ?_, ?_, ?_, ?_, ?_, ?_, ?_, ?_, ?_, ?_, ?_, ?_⟩
  · -- st
    simpa [d_st, hlv, rI_I, rI_L, rI_R, rL_I, rL_L, rL_R, rR_I, rR_L, rR_R] using h_st
  · -- sx
    simpa [d_sx, hlv, rI_I, rI_L, rI_R, rL_I, rL_L, rL_R, rR_I, rR_L, rR_R] using h_sx
  · -- hm
    simpa [d_hm, hlv, rI_I, rI_L, rI_R, rL_I, rL_L, rL_R, rR_I, rR_L, rR_R] using h_hm
  · -- sa
    simpa [d_sa, hlv, rI_I, rI_L, rI_R, rL_I, rL_L, rL_R, rR_I, rR_L, rR_R] using h_sa
  · -- sb
    simpa [d_sb, hlv, rI_I, rI_L, rI_R, rL_I, rL_L, rL_R, rR_I, rR_L, rR_R] using h_sb
  · -- gp
    simpa [d_gp, hlv, rI_I, rI_L, rI_R, rL_I, rL_L, rL_R, rR_I, rR_L, rR_R] using h_gp
  · -- ky
    simpa [d_ky, hlv, rI_I, rI_L, rI_R, rL_I, rL_L, rL_R, rR_I, rR_L, rR_R] using h_ky
  · -- k1
    simpa [d_k1, hlv, rI_I, rI_L, rI_R, rL_I, rL_L, rL_R, rR_I, rR_L, rR_R] using h_k1
  · -- fw
    simpa [d_fw, hlv, rI_I, rI_L, rI_R, rL_I, rL_L, rL_R, rR_I, rR_L, rR_R] using h_fw
  · -- fr
    simpa [d_fr, hlv, rI_I, rI_L, rI_R, rL_I, rL_L, rL_R, rR_I, rR_L, rR_R] using h_fr
  · -- ce
    simpa [d_ce, hlv, rI_I, rI_L, rI_R, rL_I, rL_L, rL_R, rR_I, rR_L, rR_R] using h_ce
  · -- an
    simpa [d_an, hlv, rI_I, rI_L, rI_R, rL_I, rL_L, rL_R, rR_I, rR_L, rR_R] using h_an
  · -- zn
    simpa [d_zn, hlv, rI_I, rI_L, rI_R, rL_I, rL_L, rL_R, rR_I, rR_L, rR_R] using h_zn
  · -- rw
    simpa [d_rw, hlv, rI_I, rI_L, rI_R, rL_I, rL_L, rL_R, rR_I, rR_L, rR_R] using h_rw
  · -- la
    simpa [d_la, hlv, rI_I, rI_L, rI_R, rL_I, rL_L, rL_R, rR_I, rR_L, rR_R] using h_la
  · -- lo
    simpa [d_lo, hlv, rI_I, rI_L, rI_R, rL_I, rL_L, rL_R, rR_I, rR_L, rR_R] using h_lo
  · -- lr
    simpa [d_lr, hlv, rI_I, rI_L, rI_R, rL_I, rL_L, rL_R, rR_I, rR_L, rR_R] using h_lr
  · -- wa
    simpa [d_wa, hlv, rI_I, rI_L, rI_R, rL_I, rL_L, rL_R, rR_I, rR_L, rR_R] using h_wa
  · -- wo
    simpa [d_wo, hlv, rI_I, rI_L, rI_R, rL_I, rL_L, rL_R, rR_I, rR_L, rR_R] using h_wo
  · -- wx
    simpa [d_wx, hlv, rI_I, rI_L, rI_R, rL_I, rL_L, rL_R, rR_I, rR_L, rR_R] using h_wx
  · -- wr
    simp only [d_wr, hlv, rI_I, rI_L, rI_R, rL_I, rL_L, rL_R, rR_I, rR_L, rR_R] at h_wr ⊢; grind [rf, lv]
  · -- w3
    simp only [d_w3, hlv, rI_I, rI_L, rI_R, rL_I, rL_L, rL_R, rR_I, rR_L, rR_R] at h_w3 ⊢; grind [rf, lv]
  · -- w4
    simpa [d_w4, hlv, rI_I, rI_L, rI_R, rL_I, rL_L, rL_R, rR_I, rR_L, rR_R] using h_w4
  · -- w8
    simpa [d_w8, hlv, rI_I, rI_L, rI_R, rL_I, rL_L, rL_R, rR_I, rR_L, rR_R] using h_w8
  · -- w9
    simpa [d_w9, hlv, rI_I, rI_L, rI_R, rL_I, rL_L, rL_R, rR_I, rR_L, rR_R] using h_w9
  · -- w5
    simpa [d_w5, hlv, rI_I, rI_L, rI_R, rL_I, rL_L, rL_R, rR_I, rR_L, rR_R] using h_w5
  · -- t1
    simpa [d_t1, hlv, rI_I, rI_L, rI_R, rL_I, rL_L, rL_R, rR_I, rR_L, rR_R] using h_t1
  · -- t2
    simpa [d_t2, hlv, rI_I, rI_L, rI_R, rL_I, rL_L, rL_R, rR_I, rR_L, rR_R] using h_t2
  · -- t3
    simpa [d_t3, hlv, rI_I, rI_L, rI_R, rL_I, rL_L, rL_R, rR_I, rR_L, rR_R] using h_t3
  · -- t6
    simpa [d_t6, hlv, rI_I, rI_L, rI_R, rL_I, rL_L, rL_R, rR_I, rR_L, rR_R] using h_t6
  · -- t9
    simpa [d_t9, hlv, rI_I, rI_L, rI_R, rL_I, rL_L, rL_R, rR_I, rR_L, rR_R] using h_t9
  · -- ty
    simpa [d_ty, hlv, rI_I, rI_L, rI_R, rL_I, rL_L, rL_R, rR_I, rR_L, rR_R] using h_ty
  · -- xx
    simpa [d_xx, hlv, rI_I, rI_L, rI_R, rL_I, rL_L, rL_R, rR_I, rR_L, rR_R] using h_xx
  · -- zr
    simpa [d_zr, hlv, rI_I, rI_L, rI_R, rL_I, rL_L, rL_R, rR_I, rR_L, rR_R] using h_zr


def w_D (k : Nat) (j : Int) : Bool := w_C k j || (k == 11 && (j == 11 || j == 12))
def w_DM (k : Nat) (j : Int) : Bool := w_M k j || k == 134 || (k == 12 && j == 32)
theorem p_lift0 (hf : f_ok f) (hB : B + 30 < 2000000000) {h : Int} {L : Int → Prop} {l : Int} (hl : 0 ≤ l ∧ l < 16) (h6 : c.1 4 l 6 = 0) (q13 : c.2.2 4 l 13 = none) (hh : h + 1 ≤ 72) (R : relN f N B (h, L) c m) :
    ∃ f' c' m' L', f_ok f' ∧ F11_lift (some l) (c_chg c l 1) = some c' ∧ F12_lifts l m = some m' ∧ relN f' N (B + 1) (h + 1, L') c' m' ∧ so w_D (c_chg c l 1) c' ∧ so w_DM (m_chg m l 1) m' := by
  have hlr : m.1 121 0 l = -1 := by rw [R.2.2.1.2.2.2.2.2.2.2.2.2.2.2.2.2.2.2.2.1 l hl.1 hl.2, q13]; rfl
  have hw3 := R.2.2.1.2.2.2.2.2.2.2.2.2.2.2.2.2.2.2.2.2.2.2.2.2.1 l h6
  have hnow : m.1 12 0 2 = c.1 11 0 10 := R.1.2.2.2.2.2.2.2.1
  have hnum : c.1 4 l 0 = l := R.1.2.2.2.2.2.2.2.2.2.2.2.1 l hl.1 hl.2
  obtain ⟨c1, hc1⟩ : ∃ x, x = sI (c_chg c l 1) 4 l 7 0 := ⟨_, rfl⟩
  obtain ⟨m1, hm1⟩ : ∃ x, x = sI (sI (m_chg m l 1) 124 0 l 0) 121 0 l (-1) := ⟨_, rfl⟩
  have cI : ∀ k n j, c1.1 k n j = if k = 4 ∧ n = l ∧ (j = 4 ∨ j = 7 ∨ j = 8 ∨ j = 9 ∨ j = 10) then 0 else if k = 4 ∧ n = l ∧ j = 6 then 1 else c.1 k n j := fun k n j => by
    rw [hc1, rI_I, c_chg_I]
    grind
  have mI : ∀ k n j, m1.1 k n j = if n = 0 ∧ j = l ∧ (k = 114 ∨ k = 115 ∨ k = 116 ∨ k = 118 ∨ k = 124) then 0 else if k = 112 ∧ n = 0 ∧ j = l then 1 else m.1 k n j := fun k n j => by
    rw [hm1, rI_I, rI_I, m_chg_I]
    grind (splits := 20)
  have cR : c1.2 = c.2 := by rw [hc1]; rfl
  have sc1 : so w_hl c c1 := by rw [hc1]; exact so_I (so_I (so_I (so_I (so_I (so_I (so_rfl c) rfl _ _) rfl _ _) rfl _ _) rfl _ _) rfl _ _) rfl _ _
  have sm1 : so w_hlm m m1 := by rw [hm1]; exact so_I (so_I (so_I (so_I (so_I (so_I (so_I (so_rfl m) rfl _ _) rfl _ _) rfl _ _) rfl _ _) rfl _ _) rfl _ _) rfl _ _
  have R1 : relN f N B (h, L) c1 m1 := by
    refine rel_hl hf R (fun x => ?_) (r_h_cg (fun k n j q => ⟨?_, by rw [cR]; rfl, by rw [cR]; rfl⟩) (fun k n j q => ?_) (t_up (l := l) hf q13 R.2.2.1)) sc1 sm1 (fun n => ?_) (fun s _ _ => ?_)
    · have g := R.2.1 x
      obtain ⟨g1, g2, g3, g4, g5, g6, g7, g8, g9, g10, g11, g12, g13⟩ := g
      simp only [cI, mI]
      clear R sc1 sm1
      refine ⟨?_, ?_, ?_, ?_, ?_, ?_, ?_, ?_, ?_, ?_, ?_, ?_, ?_⟩
      all_goals grind
    · rw [cI, rI_I, if_neg (by simp [rdC] at q; omega)]
    · simp [rdM] at q
      rw [mI, if_neg (by omega), if_neg (by omega)]
    · rw [cI, cI, if_neg (by omega), if_neg (by omega), if_neg (by omega), if_neg (by omega), cR]
      exact ⟨Iff.rfl, fun _ => ⟨rfl, rfl⟩, Iff.rfl⟩
    · rw [mI, mI, mI, if_neg (by omega), if_neg (by omega), if_neg (by omega), if_neg (by omega), if_neg (by omega), if_neg (by omega)]
      exact ⟨Iff.rfl, fun _ _ _ _ => Iff.rfl⟩
  obtain ⟨id, f', hf', i0, i1, h40, hd, hm, R2, em, c11, c12, c13⟩ := p_new hf R1 hh (by omega) (l / 8) l m1 (fun _ => rfl) rfl
  have he : l / 8 = 0 ∨ l / 8 = 1 := by omega
  have ec := f_make (c := c1) (e := l / 8) (id := id) c11 c12 c13 h40
  have c1now : c1.1 11 0 10 = c.1 11 0 10 := by rw [cI, if_neg (by omega), if_neg (by omega)]
  have m1now : m1.1 12 0 2 = c1.1 11 0 10 := by rw [mI, if_neg (by omega), if_neg (by omega), c1now]; exact hnow
  obtain ⟨C, hC⟩ : ∃ x, x = sR (sR (c_new c1 id (some (l / 8))) 0 id 1 (some l)) 4 l 11 (some id) := ⟨_, rfl⟩
  obtain ⟨M, hM⟩ : ∃ x, x = sI (m_new m1 (l / 8) l (f' id)) 119 0 l (f' id) := ⟨_, rfl⟩
  have E1 : F11_lift (some l) (c_chg c l 1) = some C := by
    unfold F11_lift
    rw [Option.bind_some]
    simp only [lt_d]
    rw [← hc1, show c1.2.2 4 l 13 = none by rw [cR]; exact q13, if_pos rfl, show c1.1 4 l 0 = l by rw [cI, if_neg (by omega), if_neg (by omega)]; exact hnum, i_div hl.1 (by omega) (by decide) (by decide), g_t (by omega), ec, Option.bind_some]
    dsimp only
    rw [if_neg (by simp), Option.bind_some, hC]
  have E2 : F12_lifts l m = some M := by
    unfold F12_lifts
    rw [g_t hl, lt_d, f_clears hl, Option.bind_some]
    simp only [g_t hl, lt_d]
    have e1 : (sI (m_chg m l 1) 124 0 l 0).1 121 0 l = -1 := by rw [rI_o (by omega), m_chg_I, if_neg (by omega), if_neg (by omega), hlr]
    rw [e1, if_pos rfl, ← hm1, i_div hl.1 (by omega) (by decide) (by decide), em, Option.bind_some, hM]
  have CI : ∀ k n j, C.1 k n j = if k = 0 ∧ n = id ∧ (j = 15 ∨ j = 14 ∨ j = 13 ∨ j = 12 ∨ j = 11 ∨ j = 9) then 0 else if k = 0 ∧ n = id ∧ j = 10 then c1.1 11 0 10 else if k = 0 ∧ n = id ∧ j = 6 then -1 else if k = 11 ∧ n = 0 ∧ j = 13 then c1.1 11 0 13 + 1 else if k = 11 ∧ n = 0 ∧ j = 12 then c1.1 11 0 12 + 1 else if k = 11 ∧ n = 0 ∧ j = 11 then c1.1 11 0 11 + 1 else c1.1 k n j := fun k n j => by rw [hC]; exact c_new_I c1 id _ k n j
  have CR : ∀ k n j, C.2.2 k n j = if k = 4 ∧ n = l ∧ j = 11 then some id else if k = 0 ∧ n = id ∧ j = 1 then some l else if k = 0 ∧ n = id ∧ (j = 7 ∨ j = 5 ∨ j = 4 ∨ j = 3 ∨ j = 2 ∨ j = 1) then none else if k = 0 ∧ n = id ∧ j = 0 then some (l / 8) else c1.2.2 k n j := fun k n j => by rw [hC, rR_R, rR_R, c_new_R]
  have CL : ∀ k n j, C.2.1 k n j = if k = 0 ∧ n = id ∧ j = 8 then 0 else c1.2.1 k n j := fun k n j => by rw [hC]; exact c_new_L c1 id _ k n j
  have MI : ∀ k n j, M.1 k n j = if k = 119 ∧ n = 0 ∧ j = l then f' id else (m_new m1 (l / 8) l (f' id)).1 k n j := fun k n j => by rw [hM, rI_I]
  have nc : n_c c1 C id (l / 8) 0 (c1.1 11 0 10) (some l) none := by
    refine ⟨⟨?_, ?_, ?_, ?_, ?_, ?_, ?_⟩, ⟨?_, ?_, ?_, ?_, ?_, ?_⟩, fun i z j => ⟨?_, ?_, ?_⟩, fun x => ⟨?_, ?_, ?_, fun q => ?_, fun q => ?_⟩, fun t => ⟨(fun q => by cases q), fun _ => ⟨?_, ?_⟩⟩, fun r j => ?_⟩
    all_goals first
      | (rw [CI]; simp; done)
      | (rw [CR]; simp; done)
      | (rw [CI]; simp [z]; done)
      | (rw [CR]; simp [z]; done)
      | (rw [CL]; simp [z]; done)
      | (cases q; rw [CR]; simp; done)
      | (rw [CR, if_neg (fun w => q (by rw [w.2.1])), if_neg (by omega), if_neg (by omega), if_neg (by omega)]; done)
  have nm : n_m f' m1 M id (l / 8) 0 (c1.1 11 0 10) l (some l) none := by
    refine ⟨⟨?_, ?_, ?_, ?_, ?_, ?_, ?_, ?_, ?_, ?_⟩, fun k a b d j z => ?_, fun s z j hj => ?_, fun j => ⟨?_, ?_, ?_⟩, fun x => ⟨fun q => ?_, fun q => ?_⟩, fun t => ⟨(fun q => by cases q), fun _ => ⟨?_, ?_⟩⟩⟩
    all_goals first
      | (rw [MI, m_new_I]; simp; done)
      | (rw [MI, m_new_I]; simp [m1now]; done)
      | (cases q; rw [MI]; simp; done)
      | (cases q; done)
      | (rw [MI, m_new_I, if_neg (by omega), if_neg (by omega), if_neg (by omega), if_neg (by omega), if_neg (by omega), if_neg (by omega), if_neg (by omega), if_neg (by omega), if_neg (by omega)]; done)
      | (rw [MI, m_new_I, if_neg (fun w => q (by rw [w.2.2])), if_neg (by omega), if_neg (by omega), if_neg (by omega), if_neg (by omega), if_neg (by omega), if_neg (by omega), if_neg (by omega), if_neg (by omega)]; done)
  have t := t_new (zd := -1) hf' ⟨i0, i1⟩ hd he ⟨by omega, by omega⟩ nc nm (Or.inl ⟨rfl, rfl, by omega, by omega, by rw [cI, if_neg (by omega), if_pos ⟨rfl, rfl, rfl⟩]; decide, by rw [cR]; exact hw3.1, by rw [cR]; exact hw3.2⟩) (Or.inl rfl)
    (fun _ => by
      have e0 : M.1 140 0 (f' id) = 0 := by rw [MI, m_new_I]; simp
      refine ⟨⟨[], ⟨by simp, fun _ q => by cases q⟩, ?_, by rw [e0]; rfl, fun j hj => by simp at hj⟩, by omega, by omega⟩
      rw [CL, if_pos ⟨rfl, rfl, rfl⟩]; rfl) R2.2.2.1
  have RR := rel_new hf' (z1' := -1) (z2' := -1) (X' := -1) (sec' := none) (Y' := -1) (zd' := -1) R2 hh ⟨i0, i1⟩ hd hm h40 nc nm ⟨by rw [CI]; simp, by rw [CI]; simp, by rw [CI]; simp⟩ (by rw [MI, m_new_I]; simp) (by rw [MI, m_new_I]; simp) t
    (r_l_cg (fun k n j q => by simp [rlC] at q; rw [CI, if_neg (by omega), if_neg (by omega), if_neg (by omega), if_neg (by omega), if_neg (by omega), if_neg (by omega)]) (fun k n j q => by simp [rlM] at q; rw [MI, m_new_I, if_neg (by omega), if_neg (by omega), if_neg (by omega), if_neg (by omega), if_neg (by omega), if_neg (by omega), if_neg (by omega), if_neg (by omega), if_neg (by omega)]) R2.2.1)
    (by rw [hC]; unfold c_new; exact so_R (so_R (so_I (so_I (so_I (so_I (so_I (so_I (so_I (so_L (so_R (so_I (so_R (so_R (so_R (so_R (so_R (so_R (so_I (so_I (so_I (so_rfl c1) rfl _ _) rfl _ _) rfl _ _) rfl _ _) rfl _ _) rfl _ _) rfl _ _) rfl _ _) rfl _ _) rfl _ _) rfl _ _) rfl _ _) rfl _ _) rfl _ _) rfl _ _) rfl _ _) rfl _ _) rfl _ _) rfl _ _) rfl _ _) rfl _ _)
    (by rw [hM]; unfold m_new; exact so_I (so_I (so_I (so_I (so_I (so_I (so_I (so_I (so_I (so_I (so_I (so_I (so_I (so_I (so_rfl m1) rfl _ _) rfl _ _) rfl _ _) rfl _ _) rfl _ _) rfl _ _) rfl _ _) rfl _ _) rfl _ _) rfl _ _) rfl _ _) rfl _ _) rfl _ _) rfl _ _)
  refine ⟨f', C, M, _, hf', E1, E2, RR, ?_, ?_⟩
  · rw [hC, hc1]; unfold c_new; exact so_R (so_R (so_I (so_I (so_I (so_I (so_I (so_I (so_I (so_L (so_R (so_I (so_R (so_R (so_R (so_R (so_R (so_R (so_I (so_I (so_I (so_I (so_rfl _) rfl _ _) rfl _ _) rfl _ _) rfl _ _) rfl _ _) rfl _ _) rfl _ _) rfl _ _) rfl _ _) rfl _ _) rfl _ _) rfl _ _) rfl _ _) rfl _ _) rfl _ _) rfl _ _) rfl _ _) rfl _ _) rfl _ _) rfl _ _) rfl _ _) rfl _ _
  · rw [hM, hm1]; unfold m_new; exact so_I (so_I (so_I (so_I (so_I (so_I (so_I (so_I (so_I (so_I (so_I (so_I (so_I (so_I (so_I (so_I (so_rfl _) rfl _ _) rfl _ _) rfl _ _) rfl _ _) rfl _ _) rfl _ _) rfl _ _) rfl _ _) rfl _ _) rfl _ _) rfl _ _) rfl _ _) rfl _ _) rfl _ _) rfl _ _) rfl _ _
end SH
