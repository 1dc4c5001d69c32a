/-! ===== a key comes ===== -/
section RU
variable {f : Int → Int} {N z1 z2 X : Int} {sec : Option Int} {Y zd : Int} {c m c' m' : JM} {B B' : Int} {H : HT}

theorem t_key (hf : f_ok f) {id x n n1 k nw : Int} (hn : 0 ≤ n ∧ n < 12) (hs : c.1 0 id 9 = 0) (HH : r_h f N z1 z2 X sec Y id c m) :
    r_h f N z1 z2 X sec Y id (sI (sL c 0 id 8 x) 0 id 10 nw) (sI (sI (sI m 140 0 (f id) n1) 139 0 (12 * f id + n) k) 145 0 (f id) nw) := by
  have inj := hf.1
  have hlv : ∀ i, lv (sI (sL c 0 id 8 x) 0 id 10 nw) i ↔ lv c i := fun i => by unfold lv; simp only [rI_I, rI_L, rI_R, rL_I, rL_L, rL_R, rR_I, rR_L, rR_R]; grind [lv]
  obtain ⟨h_st, h_sx, h_hm, h_sa, h_sb, h_gp, h_ky, h_k1, h_fw, h_fr, h_ce, h_an, h_zn, h_rw, h_la, h_lo, h_lr, h_wa, h_wo, h_wx, h_wr, h_w3, h_w4, h_w8, h_w9, h_w5, h_t1, h_t2, h_t3, h_t6, h_t9, h_ty, h_xx, h_zr⟩ := HH
  refine ⟨?_, ?_, ?_, ?_, ?_, ?_, ?_, ?_, ?_, ?_, ?_, ?_, ?_, ?_, ?_, ?_, ?_, ?_, ?_, ?_, ?_, ?_, ?_, ?_, ?_, ?_, ?_, ?_, ?_, ?_, ?_, ?_, ?_, ?_⟩
  · -- st
    simpa [d_st, hlv, rI_I, rI_L, rI_R, rL_I, rL_L, rL_R, rR_I, rR_L, rR_R] using h_st
  · -- sx
    simpa [d_sx, hlv, rI_I, rI_L, rI_R, rL_I, rL_L, rL_R, rR_I, rR_L, rR_R] using h_sx
  · -- hm
    simpa [d_hm, hlv, rI_I, rI_L, rI_R, rL_I, rL_L, rL_R, rR_I, rR_L, rR_R] using h_hm
  · -- sa
    simpa [d_sa, hlv, rI_I, rI_L, rI_R, rL_I, rL_L, rL_R, rR_I, rR_L, rR_R] using h_sa
  · -- sb
    simpa [d_sb, hlv, rI_I, rI_L, rI_R, rL_I, rL_L, rL_R, rR_I, rR_L, rR_R] using h_sb
  · -- gp
    simpa [d_gp, hlv, rI_I, rI_L, rI_R, rL_I, rL_L, rL_R, rR_I, rR_L, rR_R] using h_gp
  · -- ky
    simp only [d_ky, hlv, rI_I, rI_L, rI_R, rL_I, rL_L, rL_R, rR_I, rR_L, rR_R] at h_ky ⊢
    intro i a b
    have hne : f i ≠ f id := fun q => b (inj _ _ q)
    obtain ⟨K, k1, k2, k3, k4⟩ := h_ky i a b
    have hK1 := k1.1
    refine ⟨K, k1, by simpa [b] using k2, by simpa [hne] using k3, fun j hj => ?_⟩
    have e := k4 j hj
    have hc : ¬ (12 * f i + (j : Int) = 12 * f id + n) := by omega
    simpa [hc] using e
  · -- k1
    simp only [d_k1, hlv, rI_I, rI_L, rI_R, rL_I, rL_L, rL_R, rR_I, rR_L, rR_R] at h_k1 ⊢; grind [rf, lv]
  · -- fw
    simpa [d_fw, hlv, rI_I, rI_L, rI_R, rL_I, rL_L, rL_R, rR_I, rR_L, rR_R] using h_fw
  · -- fr
    simp only [d_fr, hlv, rI_I, rI_L, rI_R, rL_I, rL_L, rL_R, rR_I, rR_L, rR_R] at h_fr ⊢; grind [rf, lv]
  · -- ce
    simpa [d_ce, hlv, rI_I, rI_L, rI_R, rL_I, rL_L, rL_R, rR_I, rR_L, rR_R] using h_ce
  · -- an
    simpa [d_an, hlv, rI_I, rI_L, rI_R, rL_I, rL_L, rL_R, rR_I, rR_L, rR_R] using h_an
  · -- zn
    simpa [d_zn, hlv, rI_I, rI_L, rI_R, rL_I, rL_L, rL_R, rR_I, rR_L, rR_R] using h_zn
  · -- rw
    simp only [d_rw, hlv, rI_I, rI_L, rI_R, rL_I, rL_L, rL_R, rR_I, rR_L, rR_R] at h_rw ⊢; grind [rf, lv]
  · -- la
    simpa [d_la, hlv, rI_I, rI_L, rI_R, rL_I, rL_L, rL_R, rR_I, rR_L, rR_R] using h_la
  · -- lo
    simpa [d_lo, hlv, rI_I, rI_L, rI_R, rL_I, rL_L, rL_R, rR_I, rR_L, rR_R] using h_lo
  · -- lr
    simpa [d_lr, hlv, rI_I, rI_L, rI_R, rL_I, rL_L, rL_R, rR_I, rR_L, rR_R] using h_lr
  · -- wa
    simpa [d_wa, hlv, rI_I, rI_L, rI_R, rL_I, rL_L, rL_R, rR_I, rR_L, rR_R] using h_wa
  · -- wo
    simpa [d_wo, hlv, rI_I, rI_L, rI_R, rL_I, rL_L, rL_R, rR_I, rR_L, rR_R] using h_wo
  · -- wx
    simpa [d_wx, hlv, rI_I, rI_L, rI_R, rL_I, rL_L, rL_R, rR_I, rR_L, rR_R] using h_wx
  · -- wr
    simpa [d_wr, hlv, rI_I, rI_L, rI_R, rL_I, rL_L, rL_R, rR_I, rR_L, rR_R] using h_wr
  · -- w3
    simpa [d_w3, hlv, rI_I, rI_L, rI_R, rL_I, rL_L, rL_R, rR_I, rR_L, rR_R] using h_w3
  · -- w4
    simpa [d_w4, hlv, rI_I, rI_L, rI_R, rL_I, rL_L, rL_R, rR_I, rR_L, rR_R] using h_w4
  · -- w8
    simpa [d_w8, hlv, rI_I, rI_L, rI_R, rL_I, rL_L, rL_R, rR_I, rR_L, rR_R] using h_w8
  · -- w9
    simpa [d_w9, hlv, rI_I, rI_L, rI_R, rL_I, rL_L, rL_R, rR_I, rR_L, rR_R] using h_w9
  · -- w5
    simpa [d_w5, hlv, rI_I, rI_L, rI_R, rL_I, rL_L, rL_R, rR_I, rR_L, rR_R] using h_w5
  · -- t1
    simpa [d_t1, hlv, rI_I, rI_L, rI_R, rL_I, rL_L, rL_R, rR_I, rR_L, rR_R] using h_t1
  · -- t2
    simpa [d_t2, hlv, rI_I, rI_L, rI_R, rL_I, rL_L, rL_R, rR_I, rR_L, rR_R] using h_t2
  · -- t3
    simpa [d_t3, hlv, rI_I, rI_L, rI_R, rL_I, rL_L, rL_R, rR_I, rR_L, rR_R] using h_t3
  · -- t6
    simpa [d_t6, hlv, rI_I, rI_L, rI_R, rL_I, rL_L, rL_R, rR_I, rR_L, rR_R] using h_t6
  · -- t9
    simpa [d_t9, hlv, rI_I, rI_L, rI_R, rL_I, rL_L, rL_R, rR_I, rR_L, rR_R] using h_t9
  · -- ty
    simpa [d_ty, hlv, rI_I, rI_L, rI_R, rL_I, rL_L, rL_R, rR_I, rR_L, rR_R] using h_ty
  · -- xx
    simpa [d_xx, hlv, rI_I, rI_L, rI_R, rL_I, rL_L, rL_R, rR_I, rR_L, rR_R] using h_xx
  · -- zr
    simpa [d_zr, hlv, rI_I, rI_L, rI_R, rL_I, rL_L, rL_R, rR_I, rR_L, rR_R] using h_zr

theorem rel_rz (hf : f_ok f) {id z : Int} (G : Option Int) (hs : c.1 0 id 9 ≠ 1) (hz : 0 ≤ z ∧ z ≤ 3) (h1 : c.2.2 0 id 1 ≠ none → m.1 143 0 (f id) = -1 ∧ c.1 0 id 9 = 0) (R : rel f N z1 z2 X sec Y id B H c m) : rel f N z1 z2 X sec Y id B H (sI (sR c 0 id 7 G) 0 id 11 z) m := by
  have hh : r_h f N z1 z2 X sec Y id (sI (sR c 0 id 7 G) 0 id 11 z) m := by
    have inj := hf.1
    have hlv : ∀ i, lv (sI (sR c 0 id 7 G) 0 id 11 z) i ↔ lv c i := fun i => by simp [lv, rI_I, rR_I]
    have HH := R.2.2.1
    obtain ⟨h_st, h_sx, h_hm, h_sa, h_sb, h_gp, h_ky, h_k1, h_fw, h_fr, h_ce, h_an, h_zn, h_rw, h_la, h_lo, h_lr, h_wa, h_wo, h_wx, h_wr, h_w3, h_w4, h_w8, h_w9, h_w5, h_t1, h_t2, h_t3, h_t6, h_t9, h_ty, h_xx, h_zr⟩ := HH
    refine ⟨?_, ?_, ?_, ?_, ?_, ?_, ?_, ?_, ?_, ?_, ?_, ?_, ?_, ?_, ?_, ?_, ?_, ?_, ?_, ?_, ?_, ?_, ?_, ?_, ?_, ?_, ?_, ?_, ?_, ?_, ?_, ?_, ?_, ?_⟩
    · -- st
      simpa [d_st, hlv, rI_I, rI_L, rI_R, rL_I, rL_L, rL_R, rR_I, rR_L, rR_R] using h_st
    · -- sx
      simpa [d_sx, hlv, rI_I, rI_L, rI_R, rL_I, rL_L, rL_R, rR_I, rR_L, rR_R] using h_sx
    · -- hm
      simpa [d_hm, hlv, rI_I, rI_L, rI_R, rL_I, rL_L, rL_R, rR_I, rR_L, rR_R] using h_hm
    · -- sa
      simpa [d_sa, hlv, rI_I, rI_L, rI_R, rL_I, rL_L, rL_R, rR_I, rR_L, rR_R] using h_sa
    · -- sb
      simpa [d_sb, hlv, rI_I, rI_L, rI_R, rL_I, rL_L, rL_R, rR_I, rR_L, rR_R] using h_sb
    · -- gp
      simpa [d_gp, hlv, rI_I, rI_L, rI_R, rL_I, rL_L, rL_R, rR_I, rR_L, rR_R] using h_gp
    · -- ky
      simpa [d_ky, hlv, rI_I, rI_L, rI_R, rL_I, rL_L, rL_R, rR_I, rR_L, rR_R] using h_ky
    · -- k1
      simpa [d_k1, hlv, rI_I, rI_L, rI_R, rL_I, rL_L, rL_R, rR_I, rR_L, rR_R] using h_k1
    · -- fw
      simpa [d_fw, hlv, rI_I, rI_L, rI_R, rL_I, rL_L, rL_R, rR_I, rR_L, rR_R] using h_fw
    · -- fr
      simpa [d_fr, hlv, rI_I, rI_L, rI_R, rL_I, rL_L, rL_R, rR_I, rR_L, rR_R] using h_fr
    · -- ce
      simpa [d_ce, hlv, rI_I, rI_L, rI_R, rL_I, rL_L, rL_R, rR_I, rR_L, rR_R] using h_ce
    · -- an
      simpa [d_an, hlv, rI_I, rI_L, rI_R, rL_I, rL_L, rL_R, rR_I, rR_L, rR_R] using h_an
    · -- zn
      simp only [d_zn, hlv, rI_I, rI_L, rI_R, rL_I, rL_L, rL_R, rR_I, rR_L, rR_R] at h_zn ⊢; grind [rf, lv]
    · -- rw
      simp only [d_rw, hlv, rI_I, rI_L, rI_R, rL_I, rL_L, rL_R, rR_I, rR_L, rR_R] at h_rw ⊢; grind [rf, lv]
    · -- la
      simpa [d_la, hlv, rI_I, rI_L, rI_R, rL_I, rL_L, rL_R, rR_I, rR_L, rR_R] using h_la
    · -- lo
      simpa [d_lo, hlv, rI_I, rI_L, rI_R, rL_I, rL_L, rL_R, rR_I, rR_L, rR_R] using h_lo
    · -- lr
      simpa [d_lr, hlv, rI_I, rI_L, rI_R, rL_I, rL_L, rL_R, rR_I, rR_L, rR_R] using h_lr
    · -- wa
      simpa [d_wa, hlv, rI_I, rI_L, rI_R, rL_I, rL_L, rL_R, rR_I, rR_L, rR_R] using h_wa
    · -- wo
      simpa [d_wo, hlv, rI_I, rI_L, rI_R, rL_I, rL_L, rL_R, rR_I, rR_L, rR_R] using h_wo
    · -- wx
      simpa [d_wx, hlv, rI_I, rI_L, rI_R, rL_I, rL_L, rL_R, rR_I, rR_L, rR_R] using h_wx
    · -- wr
      simpa [d_wr, hlv, rI_I, rI_L, rI_R, rL_I, rL_L, rL_R, rR_I, rR_L, rR_R] using h_wr
    · -- w3
      simpa [d_w3, hlv, rI_I, rI_L, rI_R, rL_I, rL_L, rL_R, rR_I, rR_L, rR_R] using h_w3
    · -- w4
      simpa [d_w4, hlv, rI_I, rI_L, rI_R, rL_I, rL_L, rL_R, rR_I, rR_L, rR_R] using h_w4
    · -- w8
      simpa [d_w8, hlv, rI_I, rI_L, rI_R, rL_I, rL_L, rL_R, rR_I, rR_L, rR_R] using h_w8
    · -- w9
      simpa [d_w9, hlv, rI_I, rI_L, rI_R, rL_I, rL_L, rL_R, rR_I, rR_L, rR_R] using h_w9
    · -- w5
      simpa [d_w5, hlv, rI_I, rI_L, rI_R, rL_I, rL_L, rL_R, rR_I, rR_L, rR_R] using h_w5
    · -- t1
      simpa [d_t1, hlv, rI_I, rI_L, rI_R, rL_I, rL_L, rL_R, rR_I, rR_L, rR_R] using h_t1
    · -- t2
      simpa [d_t2, hlv, rI_I, rI_L, rI_R, rL_I, rL_L, rL_R, rR_I, rR_L, rR_R] using h_t2
    · -- t3
      simpa [d_t3, hlv, rI_I, rI_L, rI_R, rL_I, rL_L, rL_R, rR_I, rR_L, rR_R] using h_t3
    · -- t6
      simpa [d_t6, hlv, rI_I, rI_L, rI_R, rL_I, rL_L, rL_R, rR_I, rR_L, rR_R] using h_t6
    · -- t9
      simpa [d_t9, hlv, rI_I, rI_L, rI_R, rL_I, rL_L, rL_R, rR_I, rR_L, rR_R] using h_t9
    · -- ty
      simpa [d_ty, hlv, rI_I, rI_L, rI_R, rL_I, rL_L, rL_R, rR_I, rR_L, rR_R] using h_ty
    · -- xx
      simpa [d_xx, hlv, rI_I, rI_L, rI_R, rL_I, rL_L, rL_R, rR_I, rR_L, rR_R] using h_xx
    · -- zr
      simp only [d_zr, hlv, rI_I, rI_L, rI_R, rL_I, rL_L, rL_R, rR_I, rR_L, rR_R] at h_zr ⊢; grind [rf, lv]

  exact rel_h hf R hh (so_I (so_R (so_rfl c) rfl _ _) rfl _ _) (so_rfl m) (fun n => by simp [rI_I, rR_I, rI_R, rR_R]) (fun s a b => by simp)
theorem rel_rr (hf : f_ok f) {id : Int} (G : Option Int) (hs : c.1 0 id 9 ≠ 1) (R : rel f N z1 z2 X sec Y id B H c m) : rel f N z1 z2 X sec Y id B H (sR c 0 id 7 G) m := by
  have hh : r_h f N z1 z2 X sec Y id (sR c 0 id 7 G) m := by
    have inj := hf.1
    have hlv : ∀ i, lv (sR c 0 id 7 G) i ↔ lv c i := fun i => by simp [lv, rR_I]
    have HH := R.2.2.1
    obtain ⟨h_st, h_sx, h_hm, h_sa, h_sb, h_gp, h_ky, h_k1, h_fw, h_fr, h_ce, h_an, h_zn, h_rw, h_la, h_lo, h_lr, h_wa, h_wo, h_wx, h_wr, h_w3, h_w4, h_w8, h_w9, h_w5, h_t1, h_t2, h_t3, h_t6, h_t9, h_ty, h_xx, h_zr⟩ := HH
    refine ⟨?_, ?_, ?_, ?_, ?_, ?_, ?_, ?_, ?_, ?_, ?_, ?_, ?_, ?_, ?_, ?_, ?_, ?_, ?_, ?_, ?_, ?_, ?_, ?_, ?_, ?_, ?_, ?_, ?_, ?_, ?_, ?_, ?_, ?_⟩
    · -- st
      simpa [d_st, hlv, rI_I, rI_L, rI_R, rL_I, rL_L, rL_R, rR_I, rR_L, rR_R] using h_st
    · -- sx
      simpa [d_sx, hlv, rI_I, rI_L, rI_R, rL_I, rL_L, rL_R, rR_I, rR_L, rR_R] using h_sx
    · -- hm
      simpa [d_hm, hlv, rI_I, rI_L, rI_R, rL_I, rL_L, rL_R, rR_I, rR_L, rR_R] using h_hm
    · -- sa
      simpa [d_sa, hlv, rI_I, rI_L, rI_R, rL_I, rL_L, rL_R, rR_I, rR_L, rR_R] using h_sa
    · -- sb
      simpa [d_sb, hlv, rI_I, rI_L, rI_R, rL_I, rL_L, rL_R, rR_I, rR_L, rR_R] using h_sb
    · -- gp
      simpa [d_gp, hlv, rI_I, rI_L, rI_R, rL_I, rL_L, rL_R, rR_I, rR_L, rR_R] using h_gp
    · -- ky
      simpa [d_ky, hlv, rI_I, rI_L, rI_R, rL_I, rL_L, rL_R, rR_I, rR_L, rR_R] using h_ky
    · -- k1
      simpa [d_k1, hlv, rI_I, rI_L, rI_R, rL_I, rL_L, rL_R, rR_I, rR_L, rR_R] using h_k1
    · -- fw
      simpa [d_fw, hlv, rI_I, rI_L, rI_R, rL_I, rL_L, rL_R, rR_I, rR_L, rR_R] using h_fw
    · -- fr
      simpa [d_fr, hlv, rI_I, rI_L, rI_R, rL_I, rL_L, rL_R, rR_I, rR_L, rR_R] using h_fr
    · -- ce
      simpa [d_ce, hlv, rI_I, rI_L, rI_R, rL_I, rL_L, rL_R, rR_I, rR_L, rR_R] using h_ce
    · -- an
      simpa [d_an, hlv, rI_I, rI_L, rI_R, rL_I, rL_L, rL_R, rR_I, rR_L, rR_R] using h_an
    · -- zn
      simpa [d_zn, hlv, rI_I, rI_L, rI_R, rL_I, rL_L, rL_R, rR_I, rR_L, rR_R] using h_zn
    · -- rw
      simp only [d_rw, hlv, rI_I, rI_L, rI_R, rL_I, rL_L, rL_R, rR_I, rR_L, rR_R] at h_rw ⊢; grind [rf, lv]
    · -- la
      simpa [d_la, hlv, rI_I, rI_L, rI_R, rL_I, rL_L, rL_R, rR_I, rR_L, rR_R] using h_la
    · -- lo
      simpa [d_lo, hlv, rI_I, rI_L, rI_R, rL_I, rL_L, rL_R, rR_I, rR_L, rR_R] using h_lo
    · -- lr
      simpa [d_lr, hlv, rI_I, rI_L, rI_R, rL_I, rL_L, rL_R, rR_I, rR_L, rR_R] using h_lr
    · -- wa
      simpa [d_wa, hlv, rI_I, rI_L, rI_R, rL_I, rL_L, rL_R, rR_I, rR_L, rR_R] using h_wa
    · -- wo
      simpa [d_wo, hlv, rI_I, rI_L, rI_R, rL_I, rL_L, rL_R, rR_I, rR_L, rR_R] using h_wo
    · -- wx
      simpa [d_wx, hlv, rI_I, rI_L, rI_R, rL_I, rL_L, rL_R, rR_I, rR_L, rR_R] using h_wx
    · -- wr
      simpa [d_wr, hlv, rI_I, rI_L, rI_R, rL_I, rL_L, rL_R, rR_I, rR_L, rR_R] using h_wr
    · -- w3
      simpa [d_w3, hlv, rI_I, rI_L, rI_R, rL_I, rL_L, rL_R, rR_I, rR_L, rR_R] using h_w3
    · -- w4
      simpa [d_w4, hlv, rI_I, rI_L, rI_R, rL_I, rL_L, rL_R, rR_I, rR_L, rR_R] using h_w4
    · -- w8
      simpa [d_w8, hlv, rI_I, rI_L, rI_R, rL_I, rL_L, rL_R, rR_I, rR_L, rR_R] using h_w8
    · -- w9
      simpa [d_w9, hlv, rI_I, rI_L, rI_R, rL_I, rL_L, rL_R, rR_I, rR_L, rR_R] using h_w9
    · -- w5
      simpa [d_w5, hlv, rI_I, rI_L, rI_R, rL_I, rL_L, rL_R, rR_I, rR_L, rR_R] using h_w5
    · -- t1
      simpa [d_t1, hlv, rI_I, rI_L, rI_R, rL_I, rL_L, rL_R, rR_I, rR_L, rR_R] using h_t1
    · -- t2
      simpa [d_t2, hlv, rI_I, rI_L, rI_R, rL_I, rL_L, rL_R, rR_I, rR_L, rR_R] using h_t2
    · -- t3
      simpa [d_t3, hlv, rI_I, rI_L, rI_R, rL_I, rL_L, rL_R, rR_I, rR_L, rR_R] using h_t3
    · -- t6
      simpa [d_t6, hlv, rI_I, rI_L, rI_R, rL_I, rL_L, rL_R, rR_I, rR_L, rR_R] using h_t6
    · -- t9
      simpa [d_t9, hlv, rI_I, rI_L, rI_R, rL_I, rL_L, rL_R, rR_I, rR_L, rR_R] using h_t9
    · -- ty
      simpa [d_ty, hlv, rI_I, rI_L, rI_R, rL_I, rL_L, rL_R, rR_I, rR_L, rR_R] using h_ty
    · -- xx
      simpa [d_xx, hlv, rI_I, rI_L, rI_R, rL_I, rL_L, rL_R, rR_I, rR_L, rR_R] using h_xx
    · -- zr
      simpa [d_zr, hlv, rI_I, rI_L, rI_R, rL_I, rL_L, rL_R, rR_I, rR_L, rR_R] using h_zr

  exact rel_h hf R hh (so_R (so_rfl c) rfl _ _) (so_rfl m) (fun n => by simp [rR_I, rR_R]) (fun s a b => by simp)
/-- a key comes -/
theorem p_key (hf : f_ok f) (hB : B + 50 < 2000000000) {l k : Int} (hl : 0 ≤ l ∧ l < 16) (hk : 0 ≤ k ∧ k < 12) (R : relN f N B H c m) :
    ∃ c' m', F11_takeKey (some l) k c = some c' ∧ F12_keyComes l k m = some m' ∧ relN f N (B + 6) H c' m' ∧ so w_C c c' ∧ so w_M m m' := by
  have hla := R.2.2.1.2.2.2.2.2.2.2.2.2.2.2.2.2.2.1 l hl.1 hl.2
  have hwa := R.2.2.1.2.2.2.2.2.2.2.2.2.2.2.2.2.2.2.2.2.1 l
  have R0 : relN f N (B + 6) H c m := rel_mono (by omega) R
  cases hact : c.2.2 4 l 11 with
  | none =>
    have h119 : m.1 119 0 l = -1 := by rw [hla, hact]; rfl
    refine ⟨c, m, ?_, ?_, R0, so_rfl c, so_rfl m⟩
    · unfold F11_takeKey
      rw [Option.bind_some, if_pos hact]
    · unfold F12_keyComes
      rw [g_t hl, lt_d, if_pos h119]
  | some id =>
    obtain ⟨_, _, hv, hA⟩ := hwa id hact
    have hfr := hf.2.2.1 id hv.1 (by have := hv.2.1; omega)
    have b_st := R.2.2.1.1 id hv.1 hv.2.1
    have hnow : m.1 12 0 2 = c.1 11 0 10 := R.1.2.2.2.2.2.2.2.1
    have h119 : m.1 119 0 l = f id := by rw [hla, hact]; rfl
    unfold F11_takeKey F12_keyComes
    rw [Option.bind_some, if_neg (show ¬ c.2.2 4 l 11 = none by rw [hact]; simp), hact, Option.bind_some, g_t hl, h119]
    simp only [lt_d]
    rw [if_neg (hf.2.1 id), g_t hfr, b_st.1]
    by_cases s0 : c.1 0 id 9 = 0
    · have b_hm := R.2.2.1.2.2.1 id hv
      have b_sb := R.2.2.1.2.2.2.2.1 id hv
      have b_gp := R.2.2.1.2.2.2.2.2.1 id hv
      have b_ky := R.2.2.1.2.2.2.2.2.2.1 id hv (by have := hv.1; omega)
      have b_k1 := R.2.2.1.2.2.2.2.2.2.2.1 id hv (by have := hv.1; omega)
      have b_zn := R.2.2.1.2.2.2.2.2.2.2.2.2.2.2.2.1 id hv
      have b_an := R.2.2.1.2.2.2.2.2.2.2.2.2.2.2.1 id hv
      obtain ⟨K, hK, k1, k2, k3⟩ := b_ky
      have hK11 : K.length ≤ 11 := by have := b_k1.1 s0; omega
      obtain ⟨kn, hkn⟩ := Int.eq_ofNat_of_zero_le hk.1
      have hK2 : k_ok (K ++ [kn]) := k_oka hK (by omega) (by omega)
      have w1 : w32 (m.1 140 0 (f id) + 1) = ((K ++ [kn]).length : Int) := by rw [k2, w32_of (by omega) (by omega)]; simp
      have w2 : w32 (12 * f id) = 12 * f id := w32_of (by omega) (by omega)
      have w3 : w32 (12 * f id + m.1 140 0 (f id)) = 12 * f id + m.1 140 0 (f id) := w32_of (by omega) (by omega)
      have q1 := f_withKey hK (by omega) (k := kn) (by omega) c
      rw [← hkn] at q1
      rw [if_pos s0, if_pos s0, k1, f_countOf hK, Option.bind_some]
      dsimp only
      rw [if_pos (by omega), k1, q1, Option.bind_some]
      dsimp only
      rw [g_t hfr, g_t hfr, w1, w2, w3, g_t (show 0 ≤ 12 * f id + m.1 140 0 (f id) ∧ 12 * f id + m.1 140 0 (f id) < 960 by omega), g_t hfr]
      rw [show (sL c 0 id 8 (k_P (K ++ [kn]) : Int)).1 11 0 10 = c.1 11 0 10 from rfl, show (sI (sI m 140 0 (f id) ((K ++ [kn]).length : Int)) 139 0 (12 * f id + m.1 140 0 (f id)) k).1 12 0 2 = c.1 11 0 10 from by simp [rI_I, hnow]]
      have t := t_key (id := id) (x := (k_P (K ++ [kn]) : Int)) (n := m.1 140 0 (f id)) (n1 := ((K ++ [kn]).length : Int)) (k := k) (nw := c.1 11 0 10) hf (by omega) s0 (r_h_zn R.2.2.1 id)
      have sc : so w_h c (sI (sL c 0 id 8 (k_P (K ++ [kn]) : Int)) 0 id 10 (c.1 11 0 10)) := so_I (so_L (so_rfl c) rfl _ _) rfl _ _
      have sm : so w_hm m (sI (sI (sI m 140 0 (f id) ((K ++ [kn]).length : Int)) 139 0 (12 * f id + m.1 140 0 (f id)) k) 145 0 (f id) (c.1 11 0 10)) := so_I (so_I (so_I (so_rfl m) rfl _ _) rfl _ _) rfl _ _
      have R1 := rel_h hf R t sc sm (fun n => by simp [rI_I, rL_I, rI_R, rL_R]) (fun s a b => by simp [rI_I])
      generalize hC : sI (sL c 0 id 8 (k_P (K ++ [kn]) : Int)) 0 id 10 (c.1 11 0 10) = C at *
      generalize hM : sI (sI (sI m 140 0 (f id) ((K ++ [kn]).length : Int)) 139 0 (12 * f id + m.1 140 0 (f id)) k) 145 0 (f id) (c.1 11 0 10) = M at *
      have C9 : C.1 0 id 9 = 0 := by rw [← hC]; simp [rI_I, rL_I, s0]
      have Cr : ∀ k n j, C.2.2 k n j = c.2.2 k n j := fun k n j => by rw [← hC]; rfl
      have CL : C.2.1 0 id 8 = (k_P (K ++ [kn]) : Int) := by rw [← hC]; simp [rI_L, rL_L]
      have CI : ∀ k n j, k ≠ 0 ∨ j ≠ 10 → C.1 k n j = c.1 k n j := fun k n j q => by rw [← hC, rI_o (by omega), rL_I]
      have MI : ∀ k n j, k ≠ 139 → k ≠ 140 → k ≠ 145 → M.1 k n j = m.1 k n j := fun k n j q1 q2 q3 => by rw [← hM, rI_o (by omega), rI_o (by omega), rI_o (by omega)]
      have M140 : M.1 140 0 (f id) = ((K ++ [kn]).length : Int) := by rw [← hM]; simp [rI_I]
      have M139 : ∀ j : Nat, j < (K ++ [kn]).length → M.1 139 0 (12 * f id + j) = ((K ++ [kn]).getD j 0 : Int) := fun j hj => by
        rw [← hM]
        simp only [rI_I]
        by_cases z : j = K.length
        · subst z
          simp [k2, hkn]
        · have hj2 : j < K.length := by simp at hj; omega
          rw [if_neg (by omega), if_neg (by omega), if_neg (by omega)]
          have := k3 j hj2
          simp only [] at this
          rw [this]
          simp [List.getElem?_append_left hj2]
      have hkR : k_R (C.2.1 0 id 8) (M.1 140 0 (f id)) (fun j => M.1 139 0 (12 * f id + j)) := ⟨K ++ [kn], hK2, CL, M140, M139⟩
      have hvC : lv C id := ⟨hv.1, hv.2.1, by rw [C9]; decide⟩
      have e5 : M.1 135 0 (f id) = m.1 135 0 (f id) := MI _ _ _ (by decide) (by decide) (by decide)
      have e7 : M.1 137 0 (f id) = -1 := by rw [MI _ _ _ (by decide) (by decide) (by decide)]; omega
      have e8 : M.1 138 0 (f id) = -1 := by rw [MI _ _ _ (by decide) (by decide) (by decide)]; omega
      have eg : c.2.2 0 id 5 = none := by
        rcases b_gp with ⟨_, g⟩ | ⟨_, _, g, _⟩
        · exact g (by omega) (by have := hv.1; omega)
        · omega
      have ezn : c.2.2 0 id 1 ≠ none → m.1 143 0 (f id) = -1 := fun q => by
        rcases b_zn q with ⟨g, _⟩ | ⟨_, _, _, g⟩
        · exact g
        · have := g s0; have := hv.1; omega
      obtain ⟨r, r', a1, a2, a3⟩ := p_analyse R1.2.2.2.2.2.2.2.2.1 (by rw [e5]; exact b_hm.2) hfr rfl hkR
      rw [e5] at a1 a3
      rw [Cr 0 id 0, b_hm.1, Option.bind_some, a1, Option.bind_some, a2, Option.bind_some]
      dsimp only
      rcases a3 with ⟨rfl, rfl⟩ | ⟨rfl, rfl, q11⟩ | ⟨r0, r1, rfl, r3⟩
      · rw [if_pos rfl, if_pos rfl]
        obtain ⟨c', m', e1, e2, e3, e4, e5, e6⟩ := p_end0 (why := 1) hf (by omega) (by omega) hvC R1
        have dead : ¬ lv c' id := fun z => z.2.2 (by rw [e6]; simp)
        rw [e1, e2, Option.bind_some, Option.bind_some]
        exact ⟨c', m', rfl, rfl, rel_mono (by omega) (rel_zd e3 (fun z => absurd z dead) (fun z => absurd z dead) (fun z => absurd z dead) (fun z => absurd z dead) (fun z => absurd z dead)), so_tr (rw_C sc) e4, so_tr (rw_M sm) e5⟩
      · rw [if_neg (by simp), if_pos rfl, if_neg (by simp), if_pos rfl]
        refine ⟨C, M, rfl, rfl, rel_mono (by omega) (rel_zd R1 (fun _ => hkR) (fun _ => ⟨fun _ => q11, ?_⟩) (fun _ _ _ => by rw [Cr]; exact eg) (fun _ q => ?_) (fun _ _ q => ?_)), rw_C sc, rw_M sm⟩
        · rw [CI _ _ _ (by omega)]; exact b_k1.2
        · rw [C9] at q; omega
        · rw [MI _ _ _ (by decide) (by decide) (by decide)]; exact ezn (by rw [Cr] at q; exact q)
      · have p24 := R1.2.2.2.2.2.2.2.2.1 (m.1 135 0 (f id)) b_hm.2
        have p3 := p24.2.2.1
        obtain ⟨p4, _, _, _, _, _, _, _, p9, p10, p11, _⟩ := p24.2.2.2 (24 * m.1 135 0 (f id) + r) (by omega) (by omega)
        rw [show 24 * m.1 135 0 (f id) + r - 24 * m.1 135 0 (f id) = r by omega] at p4
        rw [if_neg (by omega), if_neg (by omega), if_neg (by omega), if_neg (by omega), Cr 0 id 0, b_hm.1, Option.bind_some, g_t (show 0 ≤ r ∧ r < 24 by omega), p4]
        rw [show (sR C 0 id 7 (some (24 * m.1 135 0 (f id) + r))).2.2 0 id 7 = some (24 * m.1 135 0 (f id) + r) from by simp [rR_R], Option.bind_some, rR_I, p9]
        have R2 := rel_rz (z := M.1 111 0 (24 * m.1 135 0 (f id) + r)) hf (some (24 * m.1 135 0 (f id) + r)) (by rw [C9]; decide) ⟨p10, p11⟩ (fun q => ⟨by rw [MI _ _ _ (by decide) (by decide) (by decide)]; exact ezn (by rw [Cr] at q; exact q), C9⟩) R1
        have sc2 : so w_h c (sI (sR C 0 id 7 (some (24 * m.1 135 0 (f id) + r))) 0 id 11 (M.1 111 0 (24 * m.1 135 0 (f id) + r))) := so_I (so_R sc rfl _ _) rfl _ _
        have hfw : c.1 0 id 12 ≤ 5 := b_k1.2
        have b_fw := R.2.2.1.2.2.2.2.2.2.2.2.1 id hv
        have c12 : (sI (sR C 0 id 7 (some (24 * m.1 135 0 (f id) + r))) 0 id 11 (M.1 111 0 (24 * m.1 135 0 (f id) + r))).1 0 id 12 = c.1 0 id 12 := by rw [rI_o (by omega), rR_I, CI _ _ _ (by omega)]
        have c9 : (sI (sR C 0 id 7 (some (24 * m.1 135 0 (f id) + r))) 0 id 11 (M.1 111 0 (24 * m.1 135 0 (f id) + r))).1 0 id 9 = 0 := by rw [rI_o (by omega), rR_I, C9]
        obtain ⟨c', m', g1, g2, g3, g4, g5⟩ := p_place hf (by omega) 8 j_fu (sI (sR C 0 id 7 (some (24 * m.1 135 0 (f id) + r))) 0 id 11 (M.1 111 0 (24 * m.1 135 0 (f id) + r))) M 0 (24 * m.1 135 0 (f id) + r) ⟨R2, ⟨hv.1, hv.2.1, by rw [c9]; decide⟩, e7, by simp [rI_R, rR_R, Cr, eg], hkR, by rw [c12]; exact hfw⟩ ⟨by simp [rI_R, rR_R], by rw [e5]; omega, by rw [e5]; omega, r3⟩ (fun q => Or.inl ⟨by rw [MI _ _ _ (by decide) (by decide) (by decide)]; refine ezn (fun w => q ?_); simp [rI_R, rR_R, Cr, w], by simp [rI_I]⟩) (by rw [c9]; decide) e8 (by omega) (by rw [c12]; omega) (by rw [c12]; omega) (by unfold j_fu; omega)
        unfold F11_place
        rw [g1, g2, Option.bind_some, Option.bind_some]
        exact ⟨c', m', rfl, rfl, g3, so_tr (rw_C sc2) g4, so_tr (rw_M sm) g5⟩
    · rw [if_neg s0, if_neg s0]
      exact ⟨c, m, rfl, rfl, R0, so_rfl c, so_rfl m⟩
end RU
