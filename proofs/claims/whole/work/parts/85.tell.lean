/-! ===== what the relation reads ===== -/
def rdC (k : Nat) (j : Int) : Bool := k == 0 || (k == 4 && (j == 6 || j == 11 || j == 12 || j == 13)) || k == 6 || (k == 8 && (j == 2 || j == 3))
def rdM (k : Nat) : Bool := k == 105 || k == 119 || k == 120 || k == 121 || k == 133 || k == 134 || k == 135 || k == 136 || k == 137 || k == 138 || k == 139 || k == 140 || k == 141 || k == 142 || k == 143 || k == 144 || k == 145 || k == 146 || k == 147 || k == 148 || k == 154 || k == 155
section RH
variable {f : Int → Int} {N z1 z2 X : Int} {sec : Option Int} {Y zd : Int} {c m c' m' : JM}

theorem r_h_cg (hc : ∀ k n j, rdC k j = true → c'.1 k n j = c.1 k n j ∧ c'.2.1 k n j = c.2.1 k n j ∧ c'.2.2 k n j = c.2.2 k n j) (hm : ∀ k n j, rdM k = true → m'.1 k n j = m.1 k n j) (H : r_h f N z1 z2 X sec Y zd c m) : r_h f N z1 z2 X sec Y zd c' m' := by
  have a0 : ∀ n j, c'.1 0 n j = c.1 0 n j := fun n j => (hc 0 n j rfl).1
  have a1 : ∀ n j, c'.2.1 0 n j = c.2.1 0 n j := fun n j => (hc 0 n j rfl).2.1
  have a2 : ∀ n j, c'.2.2 0 n j = c.2.2 0 n j := fun n j => (hc 0 n j rfl).2.2
  have a3 : ∀ n, c'.1 4 n 6 = c.1 4 n 6 := fun n => (hc 4 n 6 rfl).1
  have a4 : ∀ n, c'.2.2 4 n 11 = c.2.2 4 n 11 := fun n => (hc 4 n 11 rfl).2.2
  have a5 : ∀ n, c'.2.2 4 n 12 = c.2.2 4 n 12 := fun n => (hc 4 n 12 rfl).2.2
  have a6 : ∀ n, c'.2.2 4 n 13 = c.2.2 4 n 13 := fun n => (hc 4 n 13 rfl).2.2
  have a7 : ∀ n j, c'.1 6 n j = c.1 6 n j := fun n j => (hc 6 n j rfl).1
  have a8 : ∀ n, c'.1 8 n 2 = c.1 8 n 2 := fun n => (hc 8 n 2 rfl).1
  have a9 : ∀ n, c'.2.2 8 n 3 = c.2.2 8 n 3 := fun n => (hc 8 n 3 rfl).2.2
  have b105 : ∀ j, m'.1 105 0 j = m.1 105 0 j := fun j => hm 105 0 j rfl
  have b119 : ∀ j, m'.1 119 0 j = m.1 119 0 j := fun j => hm 119 0 j rfl
  have b120 : ∀ j, m'.1 120 0 j = m.1 120 0 j := fun j => hm 120 0 j rfl
  have b121 : ∀ j, m'.1 121 0 j = m.1 121 0 j := fun j => hm 121 0 j rfl
  have b133 : ∀ j, m'.1 133 0 j = m.1 133 0 j := fun j => hm 133 0 j rfl
  have b135 : ∀ j, m'.1 135 0 j = m.1 135 0 j := fun j => hm 135 0 j rfl
  have b136 : ∀ j, m'.1 136 0 j = m.1 136 0 j := fun j => hm 136 0 j rfl
  have b137 : ∀ j, m'.1 137 0 j = m.1 137 0 j := fun j => hm 137 0 j rfl
  have b138 : ∀ j, m'.1 138 0 j = m.1 138 0 j := fun j => hm 138 0 j rfl
  have b139 : ∀ j, m'.1 139 0 j = m.1 139 0 j := fun j => hm 139 0 j rfl
  have b140 : ∀ j, m'.1 140 0 j = m.1 140 0 j := fun j => hm 140 0 j rfl
  have b141 : ∀ j, m'.1 141 0 j = m.1 141 0 j := fun j => hm 141 0 j rfl
  have b142 : ∀ j, m'.1 142 0 j = m.1 142 0 j := fun j => hm 142 0 j rfl
  have b143 : ∀ j, m'.1 143 0 j = m.1 143 0 j := fun j => hm 143 0 j rfl
  have b144 : ∀ j, m'.1 144 0 j = m.1 144 0 j := fun j => hm 144 0 j rfl
  have b145 : ∀ j, m'.1 145 0 j = m.1 145 0 j := fun j => hm 145 0 j rfl
  have b146 : ∀ j, m'.1 146 0 j = m.1 146 0 j := fun j => hm 146 0 j rfl
  have b147 : ∀ j, m'.1 147 0 j = m.1 147 0 j := fun j => hm 147 0 j rfl
  have b148 : ∀ j, m'.1 148 0 j = m.1 148 0 j := fun j => hm 148 0 j rfl
  have b154 : ∀ j, m'.1 154 0 j = m.1 154 0 j := fun j => hm 154 0 j rfl
  have b155 : ∀ j, m'.1 155 0 j = m.1 155 0 j := fun j => hm 155 0 j rfl
  unfold r_h d_st d_sx d_hm d_sa d_sb d_gp d_ky d_k1 d_fw d_fr d_ce d_an d_zn d_rw d_la d_lo d_lr d_wa d_wo d_wx d_wr d_w3 d_w4 d_w8 d_w9 d_w5 d_t1 d_t2 d_t3 d_t6 d_t9 d_ty d_xx d_zr lv at H ⊢
  simp only [a0, a1, a2, a3, a4, a5, a6, a7, a8, a9, b105, b119, b120, b121, b133, b135, b136, b137, b138, b139, b140, b141, b142, b143, b144, b145, b146, b147, b148, b154, b155]
  exact H

theorem r_m_cg {B : Int} {e : Int} (hc : ∀ k n j, k = 5 ∨ k = 31 → c'.1 k n j = c.1 k n j ∧ c'.2.1 k n j = c.2.1 k n j) (hm : ∀ k n j, 158 ≤ k → k ≤ 167 → m'.1 k n j = m.1 k n j) (H : r_m B c m e) : r_m B c' m' e := by
  have a0 : ∀ n j, c'.1 5 n j = c.1 5 n j := fun n j => (hc 5 n j (Or.inl rfl)).1
  have a1 : ∀ n j, c'.2.1 31 n j = c.2.1 31 n j := fun n j => (hc 31 n j (Or.inr rfl)).2
  have b158 : ∀ j, m'.1 158 0 j = m.1 158 0 j := fun j => hm 158 0 j (by decide) (by decide)
  have b159 : ∀ j, m'.1 159 0 j = m.1 159 0 j := fun j => hm 159 0 j (by decide) (by decide)
  have b160 : ∀ j, m'.1 160 0 j = m.1 160 0 j := fun j => hm 160 0 j (by decide) (by decide)
  have b161 : ∀ j, m'.1 161 0 j = m.1 161 0 j := fun j => hm 161 0 j (by decide) (by decide)
  have b162 : ∀ j, m'.1 162 0 j = m.1 162 0 j := fun j => hm 162 0 j (by decide) (by decide)
  have b163 : ∀ j, m'.1 163 0 j = m.1 163 0 j := fun j => hm 163 0 j (by decide) (by decide)
  have b164 : ∀ j, m'.1 164 0 j = m.1 164 0 j := fun j => hm 164 0 j (by decide) (by decide)
  have b165 : ∀ j, m'.1 165 0 j = m.1 165 0 j := fun j => hm 165 0 j (by decide) (by decide)
  have b166 : ∀ j, m'.1 166 0 j = m.1 166 0 j := fun j => hm 166 0 j (by decide) (by decide)
  have b167 : ∀ j, m'.1 167 0 j = m.1 167 0 j := fun j => hm 167 0 j (by decide) (by decide)
  unfold r_m at H ⊢
  simp only [a0, a1, b158, b159, b160, b161, b162, b163, b164, b165, b166, b167]
  exact H

theorem t_tellL (hf : f_ok f) {id l why : Int} (hl : 0 ≤ l ∧ l < 16) (hX : l ≠ X) (hv : lv c id) (H : r_h f N id z2 X sec Y zd c m)
    (hL : c'.2.1 = c.2.1) (hR : ∀ k n j, c'.2.2 k n j = if k = 4 ∧ n = l ∧ (j = 11 ∨ j = 12 ∨ j = 13) ∧ c.2.2 k n j = some id then none else c.2.2 k n j)
    (hI : ∀ k n j, c'.1 k n j = if k = 4 ∧ n = l ∧ j = 16 ∧ c.2.2 4 l 13 = some id then c.1 11 0 10 else if k = 4 ∧ n = l ∧ j = 14 ∧ c.2.2 4 l 11 = some id then why else if k = 4 ∧ n = l ∧ j = 15 ∧ c.2.2 4 l 11 = some id then (if why = 1 then 4 else 3) else c.1 k n j)
    (hM : ∀ k n j, m'.1 k n j = if (k = 119 ∨ k = 120 ∨ k = 121) ∧ n = 0 ∧ j = l ∧ m.1 k 0 l = f id then -1 else if k = 125 ∧ n = 0 ∧ j = l ∧ m.1 121 0 l = f id then m.1 12 0 2 else if k = 122 ∧ n = 0 ∧ j = l ∧ m.1 119 0 l = f id then why else if k = 123 ∧ n = 0 ∧ j = l ∧ m.1 119 0 l = f id then (if why = 1 then 4 else 3) else m.1 k n j) :
    r_h f N id z2 X sec Y zd c' m' := by
  obtain ⟨h_st, h_sx, h_hm, h_sa, h_sb, h_gp, h_ky, h_k1, h_fw, h_fr, h_ce, h_an, h_zn, h_rw, h_la, h_lo, h_lr, h_wa, h_wo, h_wx, h_wr, h_w3, h_w4, h_w8, h_w9, h_w5, h_t1, h_t2, h_t3, h_t6, h_t9, h_ty, h_xx, h_zr⟩ := H
  have e1 : m.1 119 0 l = f id ↔ c.2.2 4 l 11 = some id := by rw [h_la l hl.1 hl.2]; exact rf_eq hf _ _
  have e2 : m.1 120 0 l = f id ↔ c.2.2 4 l 12 = some id := by rw [h_lo l hl.1 hl.2 hX]; exact rf_eq hf _ _
  have e3 : m.1 121 0 l = f id ↔ c.2.2 4 l 13 = some id := by rw [h_lr l hl.1 hl.2]; exact rf_eq hf _ _
  refine ⟨?_, ?_, ?_, ?_, ?_, ?_, ?_, ?_, ?_, ?_, ?_, ?_, ?_, ?_, ?_, ?_, ?_, ?_, ?_, ?_, ?_, ?_, ?_, ?_, ?_, ?_, ?_, ?_, ?_, ?_, ?_, ?_, ?_, ?_⟩
  · -- st
    simpa [d_st, lv, hR, hI, hL, hM] using h_st
  · -- sx
    simpa [d_sx, lv, hR, hI, hL, hM] using h_sx
  · -- hm
    simpa [d_hm, lv, hR, hI, hL, hM] using h_hm
  · -- sa
    simpa [d_sa, lv, hR, hI, hL, hM] using h_sa
  · -- sb
    simpa [d_sb, lv, hR, hI, hL, hM] using h_sb
  · -- gp
    simpa [d_gp, lv, hR, hI, hL, hM] using h_gp
  · -- ky
    simpa [d_ky, lv, hR, hI, hL, hM] using h_ky
  · -- k1
    simpa [d_k1, lv, hR, hI, hL, hM] using h_k1
  · -- fw
    simpa [d_fw, lv, hR, hI, hL, hM] using h_fw
  · -- fr
    simpa [d_fr, lv, hR, hI, hL, hM] using h_fr
  · -- ce
    simpa [d_ce, lv, hR, hI, hL, hM] using h_ce
  · -- an
    simpa [d_an, lv, hR, hI, hL, hM] using h_an
  · -- zn
    simpa [d_zn, lv, hR, hI, hL, hM] using h_zn
  · -- rw
    simpa [d_rw, lv, hR, hI, hL, hM] using h_rw
  · -- la
    simp only [d_la, lv, hR, hI, hL, hM] at h_la ⊢; grind [rf]
  · -- lo
    simp only [d_lo, lv, hR, hI, hL, hM] at h_lo ⊢; grind [rf]
  · -- lr
    simp only [d_lr, lv, hR, hI, hL, hM] at h_lr ⊢; grind [rf]
  · -- wa
    simp only [d_wa, lv, hR, hI, hL, hM] at h_wa ⊢; grind [rf]
  · -- wo
    simp only [d_wo, lv, hR, hI, hL, hM] at h_wo ⊢; grind [rf]
  · -- wx
    simp only [d_wx, lv, hR, hI, hL, hM] at h_wx ⊢; grind [rf]
  · -- wr
    simp only [d_wr, lv, hR, hI, hL, hM] at h_wr ⊢; grind [rf]
  · -- w3
    simp only [d_w3, lv, hR, hI, hL, hM] at h_w3 ⊢; grind [rf]
  · -- w4
    simp only [d_w4, lv, hR, hI, hL, hM] at h_w4 ⊢; grind [rf]
  · -- w8
    simpa [d_w8, lv, hR, hI, hL, hM] using h_w8
  · -- w9
    simpa [d_w9, lv, hR, hI, hL, hM] using h_w9
  · -- w5
    simp only [d_w5, lv, hR, hI, hL, hM] at h_w5 ⊢; grind [rf]
  · -- t1
    simpa [d_t1, lv, hR, hI, hL, hM] using h_t1
  · -- t2
    simpa [d_t2, lv, hR, hI, hL, hM] using h_t2
  · -- t3
    simpa [d_t3, lv, hR, hI, hL, hM] using h_t3
  · -- t6
    simpa [d_t6, lv, hR, hI, hL, hM] using h_t6
  · -- t9
    simpa [d_t9, lv, hR, hI, hL, hM] using h_t9
  · -- ty
    simpa [d_ty, lv, hR, hI, hL, hM] using h_ty
  · -- xx
    simp only [d_xx, lv, hR, hI, hL, hM] at h_xx ⊢; grind [rf]
  · -- zr
    simpa [d_zr, lv, hR, hI, hL, hM] using h_zr

theorem t_tellT (hf : f_ok f) {id t : Int} (ht : 0 ≤ t ∧ t < 32) (hY : t ≠ Y) (hv : lv c id) (hs : c.2.2 0 id 2 = some t ∨ c.2.2 0 id 4 = some t) (hq : ∀ i, c.2.2 8 t 3 = some i → i = id) (H : r_h f N id z2 X sec Y zd c m) :
    r_h f N id z2 X sec Y zd (sR (sI c 8 t 2 3) 8 t 3 none) (sI (sI m 154 0 t 3) 155 0 t (-1)) := by
  obtain ⟨h_st, h_sx, h_hm, h_sa, h_sb, h_gp, h_ky, h_k1, h_fw, h_fr, h_ce, h_an, h_zn, h_rw, h_la, h_lo, h_lr, h_wa, h_wo, h_wx, h_wr, h_w3, h_w4, h_w8, h_w9, h_w5, h_t1, h_t2, h_t3, h_t6, h_t9, h_ty, h_xx, h_zr⟩ := H
  refine ⟨?_, ?_, ?_, ?_, ?_, ?_, ?_, ?_, ?_, ?_, ?_, ?_, ?_, ?_, ?_, ?_, ?_, ?_, ?_, ?_, ?_, ?_, ?_, ?_, ?_, ?_, ?_, ?_, ?_, ?_, ?_, ?_, ?_, ?_⟩
  · -- st
    simpa [d_st, lv, rI_I, rI_L, rI_R, rL_I, rL_L, rL_R, rR_I, rR_L, rR_R] using h_st
  · -- sx
    simpa [d_sx, lv, rI_I, rI_L, rI_R, rL_I, rL_L, rL_R, rR_I, rR_L, rR_R] using h_sx
  · -- hm
    simpa [d_hm, lv, rI_I, rI_L, rI_R, rL_I, rL_L, rL_R, rR_I, rR_L, rR_R] using h_hm
  · -- sa
    simpa [d_sa, lv, rI_I, rI_L, rI_R, rL_I, rL_L, rL_R, rR_I, rR_L, rR_R] using h_sa
  · -- sb
    simpa [d_sb, lv, rI_I, rI_L, rI_R, rL_I, rL_L, rL_R, rR_I, rR_L, rR_R] using h_sb
  · -- gp
    simpa [d_gp, lv, rI_I, rI_L, rI_R, rL_I, rL_L, rL_R, rR_I, rR_L, rR_R] using h_gp
  · -- ky
    simpa [d_ky, lv, rI_I, rI_L, rI_R, rL_I, rL_L, rL_R, rR_I, rR_L, rR_R] using h_ky
  · -- k1
    simpa [d_k1, lv, rI_I, rI_L, rI_R, rL_I, rL_L, rL_R, rR_I, rR_L, rR_R] using h_k1
  · -- fw
    simpa [d_fw, lv, rI_I, rI_L, rI_R, rL_I, rL_L, rL_R, rR_I, rR_L, rR_R] using h_fw
  · -- fr
    simpa [d_fr, lv, rI_I, rI_L, rI_R, rL_I, rL_L, rL_R, rR_I, rR_L, rR_R] using h_fr
  · -- ce
    simpa [d_ce, lv, rI_I, rI_L, rI_R, rL_I, rL_L, rL_R, rR_I, rR_L, rR_R] using h_ce
  · -- an
    simpa [d_an, lv, rI_I, rI_L, rI_R, rL_I, rL_L, rL_R, rR_I, rR_L, rR_R] using h_an
  · -- zn
    simpa [d_zn, lv, rI_I, rI_L, rI_R, rL_I, rL_L, rL_R, rR_I, rR_L, rR_R] using h_zn
  · -- rw
    simpa [d_rw, lv, rI_I, rI_L, rI_R, rL_I, rL_L, rL_R, rR_I, rR_L, rR_R] using h_rw
  · -- la
    simpa [d_la, lv, rI_I, rI_L, rI_R, rL_I, rL_L, rL_R, rR_I, rR_L, rR_R] using h_la
  · -- lo
    simpa [d_lo, lv, rI_I, rI_L, rI_R, rL_I, rL_L, rL_R, rR_I, rR_L, rR_R] using h_lo
  · -- lr
    simpa [d_lr, lv, rI_I, rI_L, rI_R, rL_I, rL_L, rL_R, rR_I, rR_L, rR_R] using h_lr
  · -- wa
    simpa [d_wa, lv, rI_I, rI_L, rI_R, rL_I, rL_L, rL_R, rR_I, rR_L, rR_R] using h_wa
  · -- wo
    simpa [d_wo, lv, rI_I, rI_L, rI_R, rL_I, rL_L, rL_R, rR_I, rR_L, rR_R] using h_wo
  · -- wx
    simpa [d_wx, lv, rI_I, rI_L, rI_R, rL_I, rL_L, rL_R, rR_I, rR_L, rR_R] using h_wx
  · -- wr
    simpa [d_wr, lv, rI_I, rI_L, rI_R, rL_I, rL_L, rL_R, rR_I, rR_L, rR_R] using h_wr
  · -- w3
    simpa [d_w3, lv, rI_I, rI_L, rI_R, rL_I, rL_L, rL_R, rR_I, rR_L, rR_R] using h_w3
  · -- w4
    simpa [d_w4, lv, rI_I, rI_L, rI_R, rL_I, rL_L, rL_R, rR_I, rR_L, rR_R] using h_w4
  · -- w8
    simpa [d_w8, lv, rI_I, rI_L, rI_R, rL_I, rL_L, rL_R, rR_I, rR_L, rR_R] using h_w8
  · -- w9
    simpa [d_w9, lv, rI_I, rI_L, rI_R, rL_I, rL_L, rL_R, rR_I, rR_L, rR_R] using h_w9
  · -- w5
    simpa [d_w5, lv, rI_I, rI_L, rI_R, rL_I, rL_L, rL_R, rR_I, rR_L, rR_R] using h_w5
  · -- t1
    simp only [d_t1, lv, rI_I, rI_L, rI_R, rL_I, rL_L, rL_R, rR_I, rR_L, rR_R] at h_t1 ⊢; grind [rf]
  · -- t2
    simp only [d_t2, lv, rI_I, rI_L, rI_R, rL_I, rL_L, rL_R, rR_I, rR_L, rR_R] at h_t2 ⊢; grind [rf]
  · -- t3
    simp only [d_t3, lv, rI_I, rI_L, rI_R, rL_I, rL_L, rL_R, rR_I, rR_L, rR_R] at h_t3 ⊢; grind [rf]
  · -- t6
    simp only [d_t6, lv, rI_I, rI_L, rI_R, rL_I, rL_L, rL_R, rR_I, rR_L, rR_R] at h_t6 ⊢; grind [rf]
  · -- t9
    simpa [d_t9, lv, rI_I, rI_L, rI_R, rL_I, rL_L, rL_R, rR_I, rR_L, rR_R] using h_t9
  · -- ty
    simp only [d_ty, lv, rI_I, rI_L, rI_R, rL_I, rL_L, rL_R, rR_I, rR_L, rR_R] at h_ty ⊢; grind [rf]
  · -- xx
    simpa [d_xx, lv, rI_I, rI_L, rI_R, rL_I, rL_L, rL_R, rR_I, rR_L, rR_R] using h_xx
  · -- zr
    simpa [d_zr, lv, rI_I, rI_L, rI_R, rL_I, rL_L, rL_R, rR_I, rR_L, rR_R] using h_zr

end RH
