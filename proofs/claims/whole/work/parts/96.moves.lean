/-! ===== moves of a call that is placed ===== -/
section RM
variable {f : Int → Int} {N z1 z2 X : Int} {sec : Option Int} {Y zd : Int} {c m c' m' : JM} {B B' : Int} {H : HT}

theorem t_ring (hf : f_ok f) {l g nw : Int} {id : Int} (hv : lv c id) (hsd : c.2.2 0 id 3 = none ∧ c.2.2 0 id 4 = none ∧ c.1 0 id 6 = -1 ∧ c.1 0 id 9 ≠ 3) (hzn : c.2.2 0 id 1 ≠ none → m.1 143 0 (f id) = c.1 0 id 11 ∧ 0 ≤ c.1 0 id 11 ∧ c.1 0 id 11 ≤ 3) (hl : 0 ≤ l ∧ l < 16 ∧ 8 * m.1 135 0 (f id) ≤ l ∧ l < 8 * m.1 135 0 (f id) + 8 ∧ c.1 4 l 6 = 0 ∧ c.2.2 4 l 13 = none) (hg : (g = -1 ∧ c.2.2 0 id 5 = none) ∨ (0 ≤ g ∧ g ≤ 2 ∧ c.2.2 0 id 5 = some (3 * m.1 135 0 (f id) + g))) (HH : r_h f N (-1) (-1) (-1) none Y id c m) :
    r_h f N (-1) (-1) (-1) none Y id (sI (sI (sR (sR c 4 l 13 (some id)) 0 id 3 (some l)) 0 id 9 2) 0 id 10 nw) (sI (sI (sI (sI (sI m 121 0 l (f id)) 137 0 (f id) l) 138 0 (f id) g) 133 0 (f id) 2) 145 0 (f id) nw) := by
  have inj := hf.1
  have hlv : ∀ i, lv (sI (sI (sR (sR c 4 l 13 (some id)) 0 id 3 (some l)) 0 id 9 2) 0 id 10 nw) i ↔ lv c i := fun i => by unfold lv; simp only [rI_I, rI_L, rI_R, rL_I, rL_L, rL_R, rR_I, rR_L, rR_R]; grind [lv]
  obtain ⟨h_st, h_sx, h_hm, h_sa, h_sb, h_gp, h_ky, h_k1, h_fw, h_fr, h_ce, h_an, h_zn, h_rw, h_la, h_lo, h_lr, h_wa, h_wo, h_wx, h_wr, h_w3, h_w4, h_w8, h_w9, h_w5, h_t1, h_t2, h_t3, h_t6, h_t9, h_ty, h_xx, h_zr⟩ := HH
  have b_st := h_st id hv.1 hv.2.1
  have b_hm := h_hm id hv
  have b_sa := h_sa id hv
  have b_sb := h_sb id hv
  have b_fw := h_fw id hv
  refine ⟨?_, ?_, ?_, ?_, ?_, ?_, ?_, ?_, ?_, ?_, ?_, ?_, ?_, ?_, ?_, ?_, ?_, ?_, ?_, ?_, ?_, ?_, ?_, ?_, ?_, ?_, ?_, ?_, ?_, ?_, ?_, ?_, ?_, ?_⟩
  · -- st
    simp only [d_st, hlv, rI_I, rI_L, rI_R, rL_I, rL_L, rL_R, rR_I, rR_L, rR_R] at h_st ⊢; grind [rf, lv]
  · -- sx
    simp only [d_sx, hlv, rI_I, rI_L, rI_R, rL_I, rL_L, rL_R, rR_I, rR_L, rR_R] at h_sx ⊢; intro i a b; have : f i ≠ f id := fun z => by have := inj _ _ z; have := hv.2.1; omega
    simp [this]; exact h_sx i a b
  · -- hm
    simpa [d_hm, hlv, rI_I, rI_L, rI_R, rL_I, rL_L, rL_R, rR_I, rR_L, rR_R] using h_hm
  · -- sa
    simpa [d_sa, hlv, rI_I, rI_L, rI_R, rL_I, rL_L, rL_R, rR_I, rR_L, rR_R] using h_sa
  · -- sb
    simp only [d_sb, hlv, rI_I, rI_L, rI_R, rL_I, rL_L, rL_R, rR_I, rR_L, rR_R] at h_sb ⊢
    intro i a
    by_cases z : i = id
    · subst z
      refine Or.inr (Or.inl ?_)
      simp [hsd.2.1, hsd.2.2.1]; omega
    · have hne : f i ≠ f id := fun q => z (inj _ _ q)
      simpa [z, hne] using h_sb i a
  · -- gp
    simp only [d_gp, hlv, rI_I, rI_L, rI_R, rL_I, rL_L, rL_R, rR_I, rR_L, rR_R] at h_gp ⊢; grind [rf, lv]
  · -- ky
    simpa [d_ky, hlv, rI_I, rI_L, rI_R, rL_I, rL_L, rL_R, rR_I, rR_L, rR_R] using h_ky
  · -- k1
    simp only [d_k1, hlv, rI_I, rI_L, rI_R, rL_I, rL_L, rL_R, rR_I, rR_L, rR_R] at h_k1 ⊢; grind [rf, lv]
  · -- fw
    simpa [d_fw, hlv, rI_I, rI_L, rI_R, rL_I, rL_L, rL_R, rR_I, rR_L, rR_R] using h_fw
  · -- fr
    simp only [d_fr, hlv, rI_I, rI_L, rI_R, rL_I, rL_L, rL_R, rR_I, rR_L, rR_R] at h_fr ⊢; grind [rf, lv]
  · -- ce
    simpa [d_ce, hlv, rI_I, rI_L, rI_R, rL_I, rL_L, rL_R, rR_I, rR_L, rR_R] using h_ce
  · -- an
    simp only [d_an, hlv, rI_I, rI_L, rI_R, rL_I, rL_L, rL_R, rR_I, rR_L, rR_R] at h_an ⊢; grind [rf, lv]
  · -- zn
    simp only [d_zn, hlv, rI_I, rI_L, rI_R, rL_I, rL_L, rL_R, rR_I, rR_L, rR_R] at h_zn ⊢; grind [rf, lv]
  · -- rw
    simp only [d_rw, hlv, rI_I, rI_L, rI_R, rL_I, rL_L, rL_R, rR_I, rR_L, rR_R] at h_rw ⊢; grind [rf, lv]
  · -- la
    simpa [d_la, hlv, rI_I, rI_L, rI_R, rL_I, rL_L, rL_R, rR_I, rR_L, rR_R] using h_la
  · -- lo
    simpa [d_lo, hlv, rI_I, rI_L, rI_R, rL_I, rL_L, rL_R, rR_I, rR_L, rR_R] using h_lo
  · -- lr
    simp only [d_lr, hlv, rI_I, rI_L, rI_R, rL_I, rL_L, rL_R, rR_I, rR_L, rR_R] at h_lr ⊢; grind [rf, lv]
  · -- wa
    simp only [d_wa, hlv, rI_I, rI_L, rI_R, rL_I, rL_L, rL_R, rR_I, rR_L, rR_R] at h_wa ⊢; grind [rf, lv]
  · -- wo
    simp only [d_wo, hlv, rI_I, rI_L, rI_R, rL_I, rL_L, rL_R, rR_I, rR_L, rR_R] at h_wo ⊢; grind [rf, lv]
  · -- wx
    simp only [d_wx, d_wa, hlv, rI_I, rI_L, rI_R, rL_I, rL_L, rL_R, rR_I, rR_L, rR_R] at h_wx h_wa ⊢; grind [rf, lv]
  · -- wr
    simp only [d_wr, hlv, rI_I, rI_L, rI_R, rL_I, rL_L, rL_R, rR_I, rR_L, rR_R] at h_wr ⊢; grind [rf, lv]
  · -- w3
    simpa [d_w3, hlv, rI_I, rI_L, rI_R, rL_I, rL_L, rL_R, rR_I, rR_L, rR_R] using h_w3
  · -- w4
    simp only [d_w4, hlv, rI_I, rI_L, rI_R, rL_I, rL_L, rL_R, rR_I, rR_L, rR_R] at h_w4 ⊢; grind [rf, lv]
  · -- w8
    simpa [d_w8, hlv, rI_I, rI_L, rI_R, rL_I, rL_L, rL_R, rR_I, rR_L, rR_R] using h_w8
  · -- w9
    simp only [d_w9, d_w4, d_w3, hlv, rI_I, rI_L, rI_R, rL_I, rL_L, rL_R, rR_I, rR_L, rR_R] at h_w9 h_w4 h_w3 ⊢; grind [rf, lv]
  · -- w5
    simp only [d_w5, hlv, rI_I, rI_L, rI_R, rL_I, rL_L, rL_R, rR_I, rR_L, rR_R] at h_w5 ⊢; grind [rf, lv]
  · -- t1
    simpa [d_t1, hlv, rI_I, rI_L, rI_R, rL_I, rL_L, rL_R, rR_I, rR_L, rR_R] using h_t1
  · -- t2
    simpa [d_t2, hlv, rI_I, rI_L, rI_R, rL_I, rL_L, rL_R, rR_I, rR_L, rR_R] using h_t2
  · -- t3
    simp only [d_t3, hlv, rI_I, rI_L, rI_R, rL_I, rL_L, rL_R, rR_I, rR_L, rR_R] at h_t3 ⊢; grind [rf, lv]
  · -- t6
    simp only [d_t6, hlv, rI_I, rI_L, rI_R, rL_I, rL_L, rL_R, rR_I, rR_L, rR_R] at h_t6 ⊢; grind [rf, lv]
  · -- t9
    simpa [d_t9, hlv, rI_I, rI_L, rI_R, rL_I, rL_L, rL_R, rR_I, rR_L, rR_R] using h_t9
  · -- ty
    simpa [d_ty, hlv, rI_I, rI_L, rI_R, rL_I, rL_L, rL_R, rR_I, rR_L, rR_R] using h_ty
  · -- xx
    intro z; omega
  · -- zr
    simpa [d_zr, hlv, rI_I, rI_L, rI_R, rL_I, rL_L, rL_R, rR_I, rR_L, rR_R] using h_zr

theorem t_other (hf : f_ok f) {l b nw : Int} {id : Int} (hv : lv c id) (hsd : c.2.2 0 id 3 = none ∧ c.2.2 0 id 4 = none ∧ c.1 0 id 6 = -1 ∧ c.1 0 id 9 ≠ 3) (hzn : c.2.2 0 id 1 ≠ none → m.1 143 0 (f id) = c.1 0 id 11 ∧ 0 ≤ c.1 0 id 11 ∧ c.1 0 id 11 ≤ 3) (hl : 0 ≤ l ∧ l < 16 ∧ 8 * m.1 135 0 (f id) ≤ l ∧ l < 8 * m.1 135 0 (f id) + 8 ∧ c.2.2 4 l 11 = some b ∧ c.1 0 b 9 = 3 ∧ c.2.2 4 l 12 = none) (hg : c.2.2 0 id 5 = none) (HH : r_h f N (-1) (-1) (-1) none Y id c m) :
    r_h f N (-1) (-1) (-1) none Y id (sI (sI (sR (sR c 4 l 12 (some id)) 0 id 3 (some l)) 0 id 9 2) 0 id 10 nw) (sI (sI (sI (sI (sI m 120 0 l (f id)) 137 0 (f id) l) 138 0 (f id) (-1)) 133 0 (f id) 2) 145 0 (f id) nw) := by
  have inj := hf.1
  have hlv : ∀ i, lv (sI (sI (sR (sR c 4 l 12 (some id)) 0 id 3 (some l)) 0 id 9 2) 0 id 10 nw) i ↔ lv c i := fun i => by unfold lv; simp only [rI_I, rI_L, rI_R, rL_I, rL_L, rL_R, rR_I, rR_L, rR_R]; grind [lv]
  obtain ⟨h_st, h_sx, h_hm, h_sa, h_sb, h_gp, h_ky, h_k1, h_fw, h_fr, h_ce, h_an, h_zn, h_rw, h_la, h_lo, h_lr, h_wa, h_wo, h_wx, h_wr, h_w3, h_w4, h_w8, h_w9, h_w5, h_t1, h_t2, h_t3, h_t6, h_t9, h_ty, h_xx, h_zr⟩ := HH
  have b_st := h_st id hv.1 hv.2.1
  have b_hm := h_hm id hv
  have b_sa := h_sa id hv
  have b_sb := h_sb id hv
  have b_fw := h_fw id hv
  refine ⟨?_, ?_, ?_, ?_, ?_, ?_, ?_, ?_, ?_, ?_, ?_, ?_, ?_, ?_, ?_, ?_, ?_, ?_, ?_, ?_, ?_, ?_, ?_, ?_, ?_, ?_, ?_, ?_, ?_, ?_, ?_, ?_, ?_, ?_⟩
  · -- st
    simp only [d_st, hlv, rI_I, rI_L, rI_R, rL_I, rL_L, rL_R, rR_I, rR_L, rR_R] at h_st ⊢; grind [rf, lv]
  · -- sx
    simp only [d_sx, hlv, rI_I, rI_L, rI_R, rL_I, rL_L, rL_R, rR_I, rR_L, rR_R] at h_sx ⊢; intro i a b; have : f i ≠ f id := fun z => by have := inj _ _ z; have := hv.2.1; omega
    simp [this]; exact h_sx i a b
  · -- hm
    simpa [d_hm, hlv, rI_I, rI_L, rI_R, rL_I, rL_L, rL_R, rR_I, rR_L, rR_R] using h_hm
  · -- sa
    simpa [d_sa, hlv, rI_I, rI_L, rI_R, rL_I, rL_L, rL_R, rR_I, rR_L, rR_R] using h_sa
  · -- sb
    simp only [d_sb, hlv, rI_I, rI_L, rI_R, rL_I, rL_L, rL_R, rR_I, rR_L, rR_R] at h_sb ⊢
    intro i a
    by_cases z : i = id
    · subst z
      refine Or.inr (Or.inl ?_)
      simp [hsd.2.1, hsd.2.2.1]; omega
    · have hne : f i ≠ f id := fun q => z (inj _ _ q)
      simpa [z, hne] using h_sb i a
  · -- gp
    simp only [d_gp, hlv, rI_I, rI_L, rI_R, rL_I, rL_L, rL_R, rR_I, rR_L, rR_R] at h_gp ⊢; grind [rf, lv]
  · -- ky
    simpa [d_ky, hlv, rI_I, rI_L, rI_R, rL_I, rL_L, rL_R, rR_I, rR_L, rR_R] using h_ky
  · -- k1
    simp only [d_k1, hlv, rI_I, rI_L, rI_R, rL_I, rL_L, rL_R, rR_I, rR_L, rR_R] at h_k1 ⊢; grind [rf, lv]
  · -- fw
    simpa [d_fw, hlv, rI_I, rI_L, rI_R, rL_I, rL_L, rL_R, rR_I, rR_L, rR_R] using h_fw
  · -- fr
    simp only [d_fr, hlv, rI_I, rI_L, rI_R, rL_I, rL_L, rL_R, rR_I, rR_L, rR_R] at h_fr ⊢; grind [rf, lv]
  · -- ce
    simpa [d_ce, hlv, rI_I, rI_L, rI_R, rL_I, rL_L, rL_R, rR_I, rR_L, rR_R] using h_ce
  · -- an
    simp only [d_an, hlv, rI_I, rI_L, rI_R, rL_I, rL_L, rL_R, rR_I, rR_L, rR_R] at h_an ⊢; grind [rf, lv]
  · -- zn
    simp only [d_zn, hlv, rI_I, rI_L, rI_R, rL_I, rL_L, rL_R, rR_I, rR_L, rR_R] at h_zn ⊢; grind [rf, lv]
  · -- rw
    simp only [d_rw, hlv, rI_I, rI_L, rI_R, rL_I, rL_L, rL_R, rR_I, rR_L, rR_R] at h_rw ⊢; grind [rf, lv]
  · -- la
    simpa [d_la, hlv, rI_I, rI_L, rI_R, rL_I, rL_L, rL_R, rR_I, rR_L, rR_R] using h_la
  · -- lo
    simp only [d_lo, hlv, rI_I, rI_L, rI_R, rL_I, rL_L, rL_R, rR_I, rR_L, rR_R] at h_lo ⊢; grind [rf, lv]
  · -- lr
    simpa [d_lr, hlv, rI_I, rI_L, rI_R, rL_I, rL_L, rL_R, rR_I, rR_L, rR_R] using h_lr
  · -- wa
    simp only [d_wa, hlv, rI_I, rI_L, rI_R, rL_I, rL_L, rL_R, rR_I, rR_L, rR_R] at h_wa ⊢; grind [rf, lv]
  · -- wo
    simp only [d_wo, hlv, rI_I, rI_L, rI_R, rL_I, rL_L, rL_R, rR_I, rR_L, rR_R] at h_wo ⊢; grind [rf, lv]
  · -- wx
    simp only [d_wx, hlv, rI_I, rI_L, rI_R, rL_I, rL_L, rL_R, rR_I, rR_L, rR_R] at h_wx ⊢; grind [rf, lv]
  · -- wr
    simp only [d_wr, hlv, rI_I, rI_L, rI_R, rL_I, rL_L, rL_R, rR_I, rR_L, rR_R] at h_wr ⊢; grind [rf, lv]
  · -- w3
    simp only [d_w3, hlv, rI_I, rI_L, rI_R, rL_I, rL_L, rL_R, rR_I, rR_L, rR_R] at h_w3 ⊢; grind [rf, lv]
  · -- w4
    simp only [d_w4, hlv, rI_I, rI_L, rI_R, rL_I, rL_L, rL_R, rR_I, rR_L, rR_R] at h_w4 ⊢; grind [rf, lv]
  · -- w8
    simpa [d_w8, hlv, rI_I, rI_L, rI_R, rL_I, rL_L, rL_R, rR_I, rR_L, rR_R] using h_w8
  · -- w9
    simp only [d_w9, d_w4, d_w3, d_wx, hlv, rI_I, rI_L, rI_R, rL_I, rL_L, rL_R, rR_I, rR_L, rR_R] at h_w9 h_w4 h_w3 h_wx ⊢; grind [rf, lv]
  · -- w5
    simp only [d_w5, hlv, rI_I, rI_L, rI_R, rL_I, rL_L, rL_R, rR_I, rR_L, rR_R] at h_w5 ⊢; grind [rf, lv]
  · -- t1
    simpa [d_t1, hlv, rI_I, rI_L, rI_R, rL_I, rL_L, rL_R, rR_I, rR_L, rR_R] using h_t1
  · -- t2
    simpa [d_t2, hlv, rI_I, rI_L, rI_R, rL_I, rL_L, rL_R, rR_I, rR_L, rR_R] using h_t2
  · -- t3
    simp only [d_t3, hlv, rI_I, rI_L, rI_R, rL_I, rL_L, rL_R, rR_I, rR_L, rR_R] at h_t3 ⊢; grind [rf, lv]
  · -- t6
    simp only [d_t6, hlv, rI_I, rI_L, rI_R, rL_I, rL_L, rL_R, rR_I, rR_L, rR_R] at h_t6 ⊢; grind [rf, lv]
  · -- t9
    simpa [d_t9, hlv, rI_I, rI_L, rI_R, rL_I, rL_L, rL_R, rR_I, rR_L, rR_R] using h_t9
  · -- ty
    simpa [d_ty, hlv, rI_I, rI_L, rI_R, rL_I, rL_L, rL_R, rR_I, rR_L, rR_R] using h_ty
  · -- xx
    intro z; omega
  · -- zr
    simpa [d_zr, hlv, rI_I, rI_L, rI_R, rL_I, rL_L, rL_R, rR_I, rR_L, rR_R] using h_zr

theorem t_wait (hf : f_ok f) {g nw tn : Int} {id : Int} (hv : lv c id) (hsd : c.2.2 0 id 3 = none ∧ c.2.2 0 id 4 = none ∧ c.1 0 id 6 = -1 ∧ c.1 0 id 9 ≠ 3) (hzn : c.2.2 0 id 1 ≠ none → m.1 143 0 (f id) = c.1 0 id 11 ∧ 0 ≤ c.1 0 id 11 ∧ c.1 0 id 11 ≤ 3) (hg : 0 ≤ g ∧ g ≤ 2 ∧ c.2.2 0 id 5 = some (3 * m.1 135 0 (f id) + g)) (hg8 : m.1 138 0 (f id) = -1) (HH : r_h f N (-1) (-1) (-1) none Y id c m) :
    r_h f N (-1) (-1) (-1) none Y id (sI (sI (sI c 0 id 9 4) 0 id 10 nw) 0 id 14 tn) (sI (sI (sI m 137 0 (f id) (300 + g)) 133 0 (f id) 4) 145 0 (f id) nw) := by
  have inj := hf.1
  have hlv : ∀ i, lv (sI (sI (sI c 0 id 9 4) 0 id 10 nw) 0 id 14 tn) i ↔ lv c i := fun i => by unfold lv; simp only [rI_I, rI_L, rI_R, rL_I, rL_L, rL_R, rR_I, rR_L, rR_R]; grind [lv]
  obtain ⟨h_st, h_sx, h_hm, h_sa, h_sb, h_gp, h_ky, h_k1, h_fw, h_fr, h_ce, h_an, h_zn, h_rw, h_la, h_lo, h_lr, h_wa, h_wo, h_wx, h_wr, h_w3, h_w4, h_w8, h_w9, h_w5, h_t1, h_t2, h_t3, h_t6, h_t9, h_ty, h_xx, h_zr⟩ := HH
  have b_st := h_st id hv.1 hv.2.1
  have b_hm := h_hm id hv
  have b_sa := h_sa id hv
  have b_sb := h_sb id hv
  have b_fw := h_fw id hv
  refine ⟨?_, ?_, ?_, ?_, ?_, ?_, ?_, ?_, ?_, ?_, ?_, ?_, ?_, ?_, ?_, ?_, ?_, ?_, ?_, ?_, ?_, ?_, ?_, ?_, ?_, ?_, ?_, ?_, ?_, ?_, ?_, ?_, ?_, ?_⟩
  · -- st
    simp only [d_st, hlv, rI_I, rI_L, rI_R, rL_I, rL_L, rL_R, rR_I, rR_L, rR_R] at h_st ⊢; grind [rf, lv]
  · -- sx
    simp only [d_sx, hlv, rI_I, rI_L, rI_R, rL_I, rL_L, rL_R, rR_I, rR_L, rR_R] at h_sx ⊢; intro i a b; have : f i ≠ f id := fun z => by have := inj _ _ z; have := hv.2.1; omega
    simp [this]; exact h_sx i a b
  · -- hm
    simpa [d_hm, hlv, rI_I, rI_L, rI_R, rL_I, rL_L, rL_R, rR_I, rR_L, rR_R] using h_hm
  · -- sa
    simpa [d_sa, hlv, rI_I, rI_L, rI_R, rL_I, rL_L, rL_R, rR_I, rR_L, rR_R] using h_sa
  · -- sb
    simp only [d_sb, hlv, rI_I, rI_L, rI_R, rL_I, rL_L, rL_R, rR_I, rR_L, rR_R] at h_sb ⊢
    intro i a
    by_cases z : i = id
    · subst z
      refine Or.inr (Or.inr (Or.inr (Or.inr ?_)))
      simp [hsd.1, hsd.2.1, hsd.2.2.1, hg.2.2]; omega
    · have hne : f i ≠ f id := fun q => z (inj _ _ q)
      simpa [z, hne] using h_sb i a
  · -- gp
    simp only [d_gp, hlv, rI_I, rI_L, rI_R, rL_I, rL_L, rL_R, rR_I, rR_L, rR_R] at h_gp ⊢; grind [rf, lv]
  · -- ky
    simpa [d_ky, hlv, rI_I, rI_L, rI_R, rL_I, rL_L, rL_R, rR_I, rR_L, rR_R] using h_ky
  · -- k1
    simp only [d_k1, hlv, rI_I, rI_L, rI_R, rL_I, rL_L, rL_R, rR_I, rR_L, rR_R] at h_k1 ⊢; grind [rf, lv]
  · -- fw
    simpa [d_fw, hlv, rI_I, rI_L, rI_R, rL_I, rL_L, rL_R, rR_I, rR_L, rR_R] using h_fw
  · -- fr
    simp only [d_fr, hlv, rI_I, rI_L, rI_R, rL_I, rL_L, rL_R, rR_I, rR_L, rR_R] at h_fr ⊢; grind [rf, lv]
  · -- ce
    simpa [d_ce, hlv, rI_I, rI_L, rI_R, rL_I, rL_L, rL_R, rR_I, rR_L, rR_R] using h_ce
  · -- an
    simp only [d_an, hlv, rI_I, rI_L, rI_R, rL_I, rL_L, rL_R, rR_I, rR_L, rR_R] at h_an ⊢; grind [rf, lv]
  · -- zn
    simp only [d_zn, hlv, rI_I, rI_L, rI_R, rL_I, rL_L, rL_R, rR_I, rR_L, rR_R] at h_zn ⊢; grind [rf, lv]
  · -- rw
    simp only [d_rw, hlv, rI_I, rI_L, rI_R, rL_I, rL_L, rL_R, rR_I, rR_L, rR_R] at h_rw ⊢; grind [rf, lv]
  · -- la
    simpa [d_la, hlv, rI_I, rI_L, rI_R, rL_I, rL_L, rL_R, rR_I, rR_L, rR_R] using h_la
  · -- lo
    simpa [d_lo, hlv, rI_I, rI_L, rI_R, rL_I, rL_L, rL_R, rR_I, rR_L, rR_R] using h_lo
  · -- lr
    simpa [d_lr, hlv, rI_I, rI_L, rI_R, rL_I, rL_L, rL_R, rR_I, rR_L, rR_R] using h_lr
  · -- wa
    simp only [d_wa, hlv, rI_I, rI_L, rI_R, rL_I, rL_L, rL_R, rR_I, rR_L, rR_R] at h_wa ⊢; grind [rf, lv]
  · -- wo
    simp only [d_wo, hlv, rI_I, rI_L, rI_R, rL_I, rL_L, rL_R, rR_I, rR_L, rR_R] at h_wo ⊢; grind [rf, lv]
  · -- wx
    simp only [d_wx, hlv, rI_I, rI_L, rI_R, rL_I, rL_L, rL_R, rR_I, rR_L, rR_R] at h_wx ⊢; grind [rf, lv]
  · -- wr
    simp only [d_wr, hlv, rI_I, rI_L, rI_R, rL_I, rL_L, rL_R, rR_I, rR_L, rR_R] at h_wr ⊢; grind [rf, lv]
  · -- w3
    simpa [d_w3, hlv, rI_I, rI_L, rI_R, rL_I, rL_L, rL_R, rR_I, rR_L, rR_R] using h_w3
  · -- w4
    simpa [d_w4, hlv, rI_I, rI_L, rI_R, rL_I, rL_L, rL_R, rR_I, rR_L, rR_R] using h_w4
  · -- w8
    simpa [d_w8, hlv, rI_I, rI_L, rI_R, rL_I, rL_L, rL_R, rR_I, rR_L, rR_R] using h_w8
  · -- w9
    simpa [d_w9, hlv, rI_I, rI_L, rI_R, rL_I, rL_L, rL_R, rR_I, rR_L, rR_R] using h_w9
  · -- w5
    simp only [d_w5, hlv, rI_I, rI_L, rI_R, rL_I, rL_L, rL_R, rR_I, rR_L, rR_R] at h_w5 ⊢; grind [rf, lv]
  · -- t1
    simpa [d_t1, hlv, rI_I, rI_L, rI_R, rL_I, rL_L, rL_R, rR_I, rR_L, rR_R] using h_t1
  · -- t2
    simpa [d_t2, hlv, rI_I, rI_L, rI_R, rL_I, rL_L, rL_R, rR_I, rR_L, rR_R] using h_t2
  · -- t3
    simp only [d_t3, hlv, rI_I, rI_L, rI_R, rL_I, rL_L, rL_R, rR_I, rR_L, rR_R] at h_t3 ⊢; grind [rf, lv]
  · -- t6
    simpa [d_t6, hlv, rI_I, rI_L, rI_R, rL_I, rL_L, rL_R, rR_I, rR_L, rR_R] using h_t6
  · -- t9
    simpa [d_t9, hlv, rI_I, rI_L, rI_R, rL_I, rL_L, rL_R, rR_I, rR_L, rR_R] using h_t9
  · -- ty
    simpa [d_ty, hlv, rI_I, rI_L, rI_R, rL_I, rL_L, rL_R, rR_I, rR_L, rR_R] using h_ty
  · -- xx
    intro z; omega
  · -- zr
    simpa [d_zr, hlv, rI_I, rI_L, rI_R, rL_I, rL_L, rL_R, rR_I, rR_L, rR_R] using h_zr

theorem t_room (hf : f_ok f) {r nw : Int} {id : Int} (hv : lv c id) (hsd : c.2.2 0 id 3 = none ∧ c.2.2 0 id 4 = none ∧ c.1 0 id 6 = -1 ∧ c.1 0 id 9 ≠ 3) (hzn : c.2.2 0 id 1 ≠ none → m.1 143 0 (f id) = c.1 0 id 11 ∧ 0 ≤ c.1 0 id 11 ∧ c.1 0 id 11 ≤ 3) (hr : r = 0 ∨ r = 1) (HH : r_h f N (-1) (-1) (-1) none Y id c m) :
    r_h f N (-1) (-1) (-1) none Y id (sI (sI (sI c 0 id 6 r) 0 id 9 3) 0 id 10 nw) (sI (sI (sI (sI (sI m 137 0 (f id) (200 + r)) 133 0 (f id) 3) 145 0 (f id) nw) 138 0 (f id) (-1)) 146 0 (f id) nw) := by
  have inj := hf.1
  have hlv : ∀ i, lv (sI (sI (sI c 0 id 6 r) 0 id 9 3) 0 id 10 nw) i ↔ lv c i := fun i => by unfold lv; simp only [rI_I, rI_L, rI_R, rL_I, rL_L, rL_R, rR_I, rR_L, rR_R]; grind [lv]
  obtain ⟨h_st, h_sx, h_hm, h_sa, h_sb, h_gp, h_ky, h_k1, h_fw, h_fr, h_ce, h_an, h_zn, h_rw, h_la, h_lo, h_lr, h_wa, h_wo, h_wx, h_wr, h_w3, h_w4, h_w8, h_w9, h_w5, h_t1, h_t2, h_t3, h_t6, h_t9, h_ty, h_xx, h_zr⟩ := HH
  have b_st := h_st id hv.1 hv.2.1
  have b_hm := h_hm id hv
  have b_sa := h_sa id hv
  have b_sb := h_sb id hv
  have b_fw := h_fw id hv
  refine ⟨?_, ?_, ?_, ?_, ?_, ?_, ?_, ?_, ?_, ?_, ?_, ?_, ?_, ?_, ?_, ?_, ?_, ?_, ?_, ?_, ?_, ?_, ?_, ?_, ?_, ?_, ?_, ?_, ?_, ?_, ?_, ?_, ?_, ?_⟩
  · -- st
    simp only [d_st, hlv, rI_I, rI_L, rI_R, rL_I, rL_L, rL_R, rR_I, rR_L, rR_R] at h_st ⊢; grind [rf, lv]
  · -- sx
    simp only [d_sx, hlv, rI_I, rI_L, rI_R, rL_I, rL_L, rL_R, rR_I, rR_L, rR_R] at h_sx ⊢; intro i a b; have : f i ≠ f id := fun z => by have := inj _ _ z; have := hv.2.1; omega
    simp [this]; exact h_sx i a b
  · -- hm
    simpa [d_hm, hlv, rI_I, rI_L, rI_R, rL_I, rL_L, rL_R, rR_I, rR_L, rR_R] using h_hm
  · -- sa
    simpa [d_sa, hlv, rI_I, rI_L, rI_R, rL_I, rL_L, rL_R, rR_I, rR_L, rR_R] using h_sa
  · -- sb
    simp only [d_sb, hlv, rI_I, rI_L, rI_R, rL_I, rL_L, rL_R, rR_I, rR_L, rR_R] at h_sb ⊢
    intro i a
    by_cases z : i = id
    · subst z
      refine Or.inr (Or.inr (Or.inr (Or.inl ?_)))
      simp [hsd.1, hsd.2.1]; omega
    · have hne : f i ≠ f id := fun q => z (inj _ _ q)
      simpa [z, hne] using h_sb i a
  · -- gp
    simp only [d_gp, hlv, rI_I, rI_L, rI_R, rL_I, rL_L, rL_R, rR_I, rR_L, rR_R] at h_gp ⊢; grind [rf, lv]
  · -- ky
    simpa [d_ky, hlv, rI_I, rI_L, rI_R, rL_I, rL_L, rL_R, rR_I, rR_L, rR_R] using h_ky
  · -- k1
    simp only [d_k1, hlv, rI_I, rI_L, rI_R, rL_I, rL_L, rL_R, rR_I, rR_L, rR_R] at h_k1 ⊢; grind [rf, lv]
  · -- fw
    simpa [d_fw, hlv, rI_I, rI_L, rI_R, rL_I, rL_L, rL_R, rR_I, rR_L, rR_R] using h_fw
  · -- fr
    simp only [d_fr, hlv, rI_I, rI_L, rI_R, rL_I, rL_L, rL_R, rR_I, rR_L, rR_R] at h_fr ⊢; grind [rf, lv]
  · -- ce
    simpa [d_ce, hlv, rI_I, rI_L, rI_R, rL_I, rL_L, rL_R, rR_I, rR_L, rR_R] using h_ce
  · -- an
    simp only [d_an, hlv, rI_I, rI_L, rI_R, rL_I, rL_L, rL_R, rR_I, rR_L, rR_R] at h_an ⊢; grind [rf, lv]
  · -- zn
    simp only [d_zn, hlv, rI_I, rI_L, rI_R, rL_I, rL_L, rL_R, rR_I, rR_L, rR_R] at h_zn ⊢; grind [rf, lv]
  · -- rw
    simp only [d_rw, hlv, rI_I, rI_L, rI_R, rL_I, rL_L, rL_R, rR_I, rR_L, rR_R] at h_rw ⊢; grind [rf, lv]
  · -- la
    simpa [d_la, hlv, rI_I, rI_L, rI_R, rL_I, rL_L, rL_R, rR_I, rR_L, rR_R] using h_la
  · -- lo
    simpa [d_lo, hlv, rI_I, rI_L, rI_R, rL_I, rL_L, rL_R, rR_I, rR_L, rR_R] using h_lo
  · -- lr
    simpa [d_lr, hlv, rI_I, rI_L, rI_R, rL_I, rL_L, rL_R, rR_I, rR_L, rR_R] using h_lr
  · -- wa
    simp only [d_wa, hlv, rI_I, rI_L, rI_R, rL_I, rL_L, rL_R, rR_I, rR_L, rR_R] at h_wa ⊢; grind [rf, lv]
  · -- wo
    simp only [d_wo, hlv, rI_I, rI_L, rI_R, rL_I, rL_L, rL_R, rR_I, rR_L, rR_R] at h_wo ⊢; grind [rf, lv]
  · -- wx
    simp only [d_wx, hlv, rI_I, rI_L, rI_R, rL_I, rL_L, rL_R, rR_I, rR_L, rR_R] at h_wx ⊢; grind [rf, lv]
  · -- wr
    simp only [d_wr, hlv, rI_I, rI_L, rI_R, rL_I, rL_L, rL_R, rR_I, rR_L, rR_R] at h_wr ⊢; grind [rf, lv]
  · -- w3
    simpa [d_w3, hlv, rI_I, rI_L, rI_R, rL_I, rL_L, rL_R, rR_I, rR_L, rR_R] using h_w3
  · -- w4
    simpa [d_w4, hlv, rI_I, rI_L, rI_R, rL_I, rL_L, rL_R, rR_I, rR_L, rR_R] using h_w4
  · -- w8
    simpa [d_w8, hlv, rI_I, rI_L, rI_R, rL_I, rL_L, rL_R, rR_I, rR_L, rR_R] using h_w8
  · -- w9
    simpa [d_w9, hlv, rI_I, rI_L, rI_R, rL_I, rL_L, rL_R, rR_I, rR_L, rR_R] using h_w9
  · -- w5
    simp only [d_w5, hlv, rI_I, rI_L, rI_R, rL_I, rL_L, rL_R, rR_I, rR_L, rR_R] at h_w5 ⊢; grind [rf, lv]
  · -- t1
    simpa [d_t1, hlv, rI_I, rI_L, rI_R, rL_I, rL_L, rL_R, rR_I, rR_L, rR_R] using h_t1
  · -- t2
    simpa [d_t2, hlv, rI_I, rI_L, rI_R, rL_I, rL_L, rL_R, rR_I, rR_L, rR_R] using h_t2
  · -- t3
    simp only [d_t3, hlv, rI_I, rI_L, rI_R, rL_I, rL_L, rL_R, rR_I, rR_L, rR_R] at h_t3 ⊢; grind [rf, lv]
  · -- t6
    simpa [d_t6, hlv, rI_I, rI_L, rI_R, rL_I, rL_L, rL_R, rR_I, rR_L, rR_R] using h_t6
  · -- t9
    simpa [d_t9, hlv, rI_I, rI_L, rI_R, rL_I, rL_L, rL_R, rR_I, rR_L, rR_R] using h_t9
  · -- ty
    simpa [d_ty, hlv, rI_I, rI_L, rI_R, rL_I, rL_L, rL_R, rR_I, rR_L, rR_R] using h_ty
  · -- xx
    intro z; omega
  · -- zr
    simpa [d_zr, hlv, rI_I, rI_L, rI_R, rL_I, rL_L, rL_R, rR_I, rR_L, rR_R] using h_zr

theorem t_far (hf : f_ok f) {k t r nw : Int} {id : Int} (hv : lv c id) (hsd : c.2.2 0 id 3 = none ∧ c.2.2 0 id 4 = none ∧ c.1 0 id 6 = -1 ∧ c.1 0 id 9 ≠ 3) (hzn : c.2.2 0 id 1 ≠ none → m.1 143 0 (f id) = c.1 0 id 11 ∧ 0 ≤ c.1 0 id 11 ∧ c.1 0 id 11 ≤ 3) (hg : c.2.2 0 id 5 = none) (ht : t = 16 * m.1 135 0 (f id) + k ∧ 0 ≤ k ∧ k < N ∧ N ≤ 16 ∧ c.1 8 t 2 = 0) (hr : c.2.2 0 id 7 = some r ∧ 24 * m.1 135 0 (f id) ≤ r ∧ r < 24 * m.1 135 0 (f id) + m.1 105 0 (m.1 135 0 (f id)) ∧ c.1 6 r 2 = m.1 142 0 (f id) ∧ (m.1 142 0 (f id) = 1 ∨ m.1 142 0 (f id) = 2) ∧ c.1 6 r 3 = m.1 141 0 (f id) ∧ 0 ≤ m.1 141 0 (f id) ∧ m.1 141 0 (f id) ≤ m.1 140 0 (f id)) (HH : r_h f N (-1) (-1) (-1) none Y id c m) :
    r_h f N (-1) (-1) (-1) none Y id (sI (sI (sR (sR (sI c 8 t 2 1) 8 t 3 (some id)) 0 id 4 (some t)) 0 id 9 1) 0 id 10 nw) (sI (sI (sI (sI (sI m 137 0 (f id) (100 + k)) 154 0 t 1) 155 0 t (f id)) 133 0 (f id) 1) 145 0 (f id) nw) := by
  have inj := hf.1
  have hlv : ∀ i, lv (sI (sI (sR (sR (sI c 8 t 2 1) 8 t 3 (some id)) 0 id 4 (some t)) 0 id 9 1) 0 id 10 nw) i ↔ lv c i := fun i => by unfold lv; simp only [rI_I, rI_L, rI_R, rL_I, rL_L, rL_R, rR_I, rR_L, rR_R]; grind [lv]
  obtain ⟨h_st, h_sx, h_hm, h_sa, h_sb, h_gp, h_ky, h_k1, h_fw, h_fr, h_ce, h_an, h_zn, h_rw, h_la, h_lo, h_lr, h_wa, h_wo, h_wx, h_wr, h_w3, h_w4, h_w8, h_w9, h_w5, h_t1, h_t2, h_t3, h_t6, h_t9, h_ty, h_xx, h_zr⟩ := HH
  have b_st := h_st id hv.1 hv.2.1
  have b_hm := h_hm id hv
  have b_sa := h_sa id hv
  have b_sb := h_sb id hv
  have b_fw := h_fw id hv
  have hY : t ≠ Y := fun q => by have := h_ty (by omega); rw [← q] at this; omega
  have hn : c.2.2 8 t 3 = none := by
    rcases h_t3 t (by omega) (by omega) hY with ⟨_, q⟩ | ⟨i, _, _, q⟩
    · exact q
    · exfalso; rcases q with q | q <;> omega
  refine ⟨?_, ?_, ?_, ?_, ?_, ?_, ?_, ?_, ?_, ?_, ?_, ?_, ?_, ?_, ?_, ?_, ?_, ?_, ?_, ?_, ?_, ?_, ?_, ?_, ?_, ?_, ?_, ?_, ?_, ?_, ?_, ?_, ?_, ?_⟩
  · -- st
    simp only [d_st, hlv, rI_I, rI_L, rI_R, rL_I, rL_L, rL_R, rR_I, rR_L, rR_R] at h_st ⊢; grind [rf, lv]
  · -- sx
    simp only [d_sx, hlv, rI_I, rI_L, rI_R, rL_I, rL_L, rL_R, rR_I, rR_L, rR_R] at h_sx ⊢; intro i a b; have : f i ≠ f id := fun z => by have := inj _ _ z; have := hv.2.1; omega
    simp [this]; exact h_sx i a b
  · -- hm
    simpa [d_hm, hlv, rI_I, rI_L, rI_R, rL_I, rL_L, rL_R, rR_I, rR_L, rR_R] using h_hm
  · -- sa
    simpa [d_sa, hlv, rI_I, rI_L, rI_R, rL_I, rL_L, rL_R, rR_I, rR_L, rR_R] using h_sa
  · -- sb
    simp only [d_sb, hlv, rI_I, rI_L, rI_R, rL_I, rL_L, rL_R, rR_I, rR_L, rR_R] at h_sb ⊢
    intro i a
    by_cases z : i = id
    · subst z
      refine Or.inr (Or.inr (Or.inl ?_))
      simp [hsd.1, hsd.2.2.1]; omega
    · have hne : f i ≠ f id := fun q => z (inj _ _ q)
      simpa [z, hne] using h_sb i a
  · -- gp
    simp only [d_gp, hlv, rI_I, rI_L, rI_R, rL_I, rL_L, rL_R, rR_I, rR_L, rR_R] at h_gp ⊢; grind [rf, lv]
  · -- ky
    simpa [d_ky, hlv, rI_I, rI_L, rI_R, rL_I, rL_L, rL_R, rR_I, rR_L, rR_R] using h_ky
  · -- k1
    simp only [d_k1, hlv, rI_I, rI_L, rI_R, rL_I, rL_L, rL_R, rR_I, rR_L, rR_R] at h_k1 ⊢; grind [rf, lv]
  · -- fw
    simpa [d_fw, hlv, rI_I, rI_L, rI_R, rL_I, rL_L, rL_R, rR_I, rR_L, rR_R] using h_fw
  · -- fr
    simp only [d_fr, hlv, rI_I, rI_L, rI_R, rL_I, rL_L, rL_R, rR_I, rR_L, rR_R] at h_fr ⊢; grind [rf, lv]
  · -- ce
    simpa [d_ce, hlv, rI_I, rI_L, rI_R, rL_I, rL_L, rL_R, rR_I, rR_L, rR_R] using h_ce
  · -- an
    simp only [d_an, hlv, rI_I, rI_L, rI_R, rL_I, rL_L, rL_R, rR_I, rR_L, rR_R] at h_an ⊢; grind [rf, lv]
  · -- zn
    simp only [d_zn, hlv, rI_I, rI_L, rI_R, rL_I, rL_L, rL_R, rR_I, rR_L, rR_R] at h_zn ⊢; grind [rf, lv]
  · -- rw
    simp only [d_rw, hlv, rI_I, rI_L, rI_R, rL_I, rL_L, rL_R, rR_I, rR_L, rR_R] at h_rw ⊢; grind [rf, lv]
  · -- la
    simpa [d_la, hlv, rI_I, rI_L, rI_R, rL_I, rL_L, rL_R, rR_I, rR_L, rR_R] using h_la
  · -- lo
    simpa [d_lo, hlv, rI_I, rI_L, rI_R, rL_I, rL_L, rL_R, rR_I, rR_L, rR_R] using h_lo
  · -- lr
    simpa [d_lr, hlv, rI_I, rI_L, rI_R, rL_I, rL_L, rL_R, rR_I, rR_L, rR_R] using h_lr
  · -- wa
    simp only [d_wa, hlv, rI_I, rI_L, rI_R, rL_I, rL_L, rL_R, rR_I, rR_L, rR_R] at h_wa ⊢; grind [rf, lv]
  · -- wo
    simp only [d_wo, hlv, rI_I, rI_L, rI_R, rL_I, rL_L, rL_R, rR_I, rR_L, rR_R] at h_wo ⊢; grind [rf, lv]
  · -- wx
    simp only [d_wx, hlv, rI_I, rI_L, rI_R, rL_I, rL_L, rL_R, rR_I, rR_L, rR_R] at h_wx ⊢; grind [rf, lv]
  · -- wr
    simp only [d_wr, hlv, rI_I, rI_L, rI_R, rL_I, rL_L, rL_R, rR_I, rR_L, rR_R] at h_wr ⊢; grind [rf, lv]
  · -- w3
    simpa [d_w3, hlv, rI_I, rI_L, rI_R, rL_I, rL_L, rL_R, rR_I, rR_L, rR_R] using h_w3
  · -- w4
    simpa [d_w4, hlv, rI_I, rI_L, rI_R, rL_I, rL_L, rL_R, rR_I, rR_L, rR_R] using h_w4
  · -- w8
    simpa [d_w8, hlv, rI_I, rI_L, rI_R, rL_I, rL_L, rL_R, rR_I, rR_L, rR_R] using h_w8
  · -- w9
    simpa [d_w9, hlv, rI_I, rI_L, rI_R, rL_I, rL_L, rL_R, rR_I, rR_L, rR_R] using h_w9
  · -- w5
    simp only [d_w5, hlv, rI_I, rI_L, rI_R, rL_I, rL_L, rL_R, rR_I, rR_L, rR_R] at h_w5 ⊢; grind [rf, lv]
  · -- t1
    simp only [d_t1, d_ty, hlv, rI_I, rI_L, rI_R, rL_I, rL_L, rL_R, rR_I, rR_L, rR_R] at h_t1 h_ty ⊢; grind [rf, lv]
  · -- t2
    simp only [d_t2, hlv, rI_I, rI_L, rI_R, rL_I, rL_L, rL_R, rR_I, rR_L, rR_R] at h_t2 ⊢; grind [rf, lv]
  · -- t3
    simp only [d_t3, hlv, rI_I, rI_L, rI_R, rL_I, rL_L, rL_R, rR_I, rR_L, rR_R] at h_t3 ⊢
    intro t' a b d
    by_cases z : t' = t
    · subst z
      exact Or.inr ⟨id, by simp, hv, Or.inl ⟨by simp, by simp⟩⟩
    · rcases h_t3 t' a b d with ⟨q1, q2⟩ | ⟨i, q1, q2, q3⟩
      · exact Or.inl ⟨by simpa [z] using q1, by simpa [z] using q2⟩
      · refine Or.inr ⟨i, by simpa [z] using q1, q2, ?_⟩
        by_cases w : i = id
        · subst w
          rcases q3 with ⟨_, q⟩ | ⟨q, q'⟩
          · rw [hsd.2.1] at q; cases q
          · exact Or.inr ⟨by simpa [z] using q, by simpa using q'⟩
        · simpa [z, w] using q3
  · -- t6
    simp only [d_t6, hlv, rI_I, rI_L, rI_R, rL_I, rL_L, rL_R, rR_I, rR_L, rR_R] at h_t6 ⊢; grind [rf, lv]
  · -- t9
    simp only [d_t9, d_t6, hlv, rI_I, rI_L, rI_R, rL_I, rL_L, rL_R, rR_I, rR_L, rR_R] at h_t9 h_t6 ⊢; grind [rf, lv]
  · -- ty
    simp only [d_ty, hlv, rI_I, rI_L, rI_R, rL_I, rL_L, rL_R, rR_I, rR_L, rR_R] at h_ty ⊢; grind [rf, lv]
  · -- xx
    intro z; omega
  · -- zr
    simpa [d_zr, hlv, rI_I, rI_L, rI_R, rL_I, rL_L, rL_R, rR_I, rR_L, rR_R] using h_zr

end RM
