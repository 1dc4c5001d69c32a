/-! ===== both sides are told; a call is over ===== -/
section RE
variable {f : Int → Int} {N z1 z2 X : Int} {sec : Option Int} {Y zd : Int} {c m c' m' : JM} {B : Int}
theorem p_tells2 (hf : f_ok f) (hB : B + 2 < 2000000000) {id why w w' : Int} (hw : 0 ≤ why ∧ why < 256) (hv : lv c id) (hK : r_k N c m) (hl : r_l X c m) (H : r_h f N id z2 X sec Y zd c m) (hm : ∀ e, e = 0 ∨ e = 1 → r_m B c m e)
    (hby : (w = 0 ∧ w' = -1) ∨ (w = 1 ∧ w' = m.1 136 0 (f id)) ∨ (w = 2 ∧ w' = m.1 137 0 (f id)))
    (hXA : w ≠ 1 → c.2.2 0 id 1 ≠ some X) (hXB : w ≠ 2 → c.2.2 0 id 3 ≠ some X)
    (hTA : w ≠ 1 → ∀ t, c.2.2 0 id 2 = some t → c.2.2 8 t 3 = some id) (hTB : w ≠ 2 → ∀ t, c.2.2 0 id 4 = some t → c.2.2 8 t 3 = some id)
    (hcA : w = 1 → (∀ l j, c.2.2 0 id 1 = some l → j = 11 ∨ j = 12 ∨ j = 13 → c.2.2 4 l j ≠ some id) ∧ (∀ t, c.2.2 0 id 2 = some t → c.2.2 8 t 3 ≠ some id))
    (hcB : w = 2 → (∀ l j, c.2.2 0 id 3 = some l → j = 11 ∨ j = 12 ∨ j = 13 → c.2.2 4 l j ≠ some id) ∧ (∀ t, c.2.2 0 id 4 = some t → c.2.2 8 t 3 ≠ some id)) :
    ∃ c' m', F11_end (some id) why w c = F11_end_38 (some id) c' ∧ F12_over_42 (f id) why w' m = F12_over_92 (f id) m' ∧ r_k N c' m' ∧ r_l X c' m' ∧ r_h f N id z2 X sec Y zd c' m' ∧ (∀ e, e = 0 ∨ e = 1 → r_m (B + 2) c' m' e) ∧ so w_tell c c' ∧ so w_tells m m' ∧
      (∀ l j, j = 11 ∨ j = 12 ∨ j = 13 → c'.2.2 4 l j ≠ some id) ∧ (∀ t, 0 ≤ t → t < 32 → c'.2.2 8 t 3 ≠ some id) := by
  have hfr := hf.2.2.1 id hv.1 (by have := hv.2.1; omega)
  have hN := hK
  obtain ⟨n1, n2, n3, n4, n5, n6, n7, n8, n9, n10, n11, n12, n13⟩ := hN
  have zz := H
  obtain ⟨h_st, h_sx, h_hm, h_sa, h_sb, h_gp, h_ky, h_k1, h_fw, h_fr, h_ce, h_an, h_zn, h_rw, h_la, h_lo, h_lr, h_wa, h_wo, h_wx, h_wr, h_w3, h_w4, h_w8, h_w9, h_w5, h_t1, h_t2, h_t3, h_t6, h_t9, h_ty, h_xx, h_zr⟩ := zz
  have hhm := h_hm id hv
  have hsa := h_sa id hv
  have hsb := h_sb id hv
  have hab : m.1 136 0 (f id) ≠ m.1 137 0 (f id) := by
    intro z
    rcases hsa with ⟨a1, a2, a3, a4⟩ | ⟨a1, a2, a3, a4⟩
    · have := h_w9 id _ hv a1
      rw [z] at this
      grind
    · have := h_t9 id _ hv a2
      rw [z] at this
      grind
  have ha : m.1 136 0 (f id) ≠ -1 := by omega
  have hY : ∀ t, 0 ≤ t → c.2.2 8 t 3 = some id → t ≠ Y := fun t t0 q z => by
    subst z
    have := (h_ty t0).2.2.1
    rw [this] at q; cases q
  have hmono : ∀ {c m : JM} {B1 B2 : Int}, B1 ≤ B2 → (∀ e, e = 0 ∨ e = 1 → r_m B1 c m e) → (∀ e, e = 0 ∨ e = 1 → r_m B2 c m e) := fun hb q e he => by
    obtain ⟨q1, q2, q3⟩ := q e he
    exact ⟨q1, by omega, q3⟩
  -- side A
  have A : ∃ c1 m1, F11_end (some id) why w c = F11_end_19 (some id) why w c1 ∧ F12_over_42 (f id) why w' m = F12_over_72 (f id) why w' (m.1 137 0 (f id)) m1 ∧ r_k N c1 m1 ∧ r_l X c1 m1 ∧ r_h f N id z2 X sec Y zd c1 m1 ∧ (∀ e, e = 0 ∨ e = 1 → r_m (B + 1) c1 m1 e) ∧ so w_tell c c1 ∧ so w_tells m m1 ∧
      (∀ l j i, c1.2.2 4 l j = some i → c.2.2 4 l j = some i ∧ (i = id → c.2.2 0 id 1 = some l → j ≠ 11 ∧ j ≠ 12 ∧ j ≠ 13)) ∧ (∀ t i, c1.2.2 8 t 3 = some i → c.2.2 8 t 3 = some i ∧ (i = id → c.2.2 0 id 2 ≠ some t)) := by
    by_cases w1 : w = 1
    · have e' : w' = m.1 136 0 (f id) := by omega
      refine ⟨c, m, ?_, ?_, hK, hl, H, hmono (by omega) hm, so_rfl c, so_rfl m, fun l j i z => ⟨z, fun q q2 => ?_⟩, fun t i z => ⟨z, fun q q2 => ?_⟩⟩
      · unfold F11_end; rw [if_pos w1]
      · unfold F12_over_42; rw [g_t hfr, lt_d, g_t hfr, lt_d, if_pos e'.symm]
      · subst q
        have := (hcA w1).1 l
        grind
      · subst q
        exact (hcA w1).2 t q2 z
    · have e' : m.1 136 0 (f id) ≠ w' := by omega
      have hs : (0 ≤ m.1 136 0 (f id) ∧ m.1 136 0 (f id) < 16 ∧ c.2.2 0 id 1 = some (m.1 136 0 (f id)) ∧ c.2.2 0 id 2 = none ∧ m.1 136 0 (f id) ≠ X) ∨ (100 ≤ m.1 136 0 (f id) ∧ m.1 136 0 (f id) < 100 + N ∧ c.2.2 0 id 1 = none ∧ c.2.2 0 id 2 = some (16 * m.1 135 0 (f id) + m.1 136 0 (f id) - 100) ∧ 16 * m.1 135 0 (f id) + m.1 136 0 (f id) - 100 ≠ Y ∧ (c.2.2 0 id 2 = c.2.2 0 id 2 ∨ c.2.2 0 id 4 = c.2.2 0 id 2) ∧ (∀ i, c.2.2 8 (16 * m.1 135 0 (f id) + m.1 136 0 (f id) - 100) 3 = some i → i = id)) ∨ (200 ≤ m.1 136 0 (f id) ∧ c.2.2 0 id 1 = none ∧ c.2.2 0 id 2 = none) := by
        rcases hsa with ⟨a1, a2, a3, a4⟩ | ⟨a1, a2, a3, a4⟩
        · have := hXA w1
          exact Or.inl ⟨by omega, by omega, a1, a2, fun z => this (by rw [a1, z])⟩
        · have q := hTA w1 _ a2
          exact Or.inr (Or.inl ⟨a3, a4, a1, a2, hY _ (by omega) q, Or.inl rfl, fun i z => by rw [q] at z; cases z; rfl⟩)
      obtain ⟨c1, m1, r1, r2, r3, r4, r5, r6, r7, r8, r9, r10⟩ := p_tell hf (by omega) hw hv hK hl H hm hs
      refine ⟨c1, m1, ?_, ?_, r3, r4, r5, r6, r7, r8, r9, fun t i z => ⟨(r10 t i z).1, fun _ => (r10 t i z).2⟩⟩
      · unfold F11_end; rw [if_neg w1]; show (F11_tellEnd _ _ _ _ _).bind _ = _; rw [r1]; rfl
      · unfold F12_over_42; rw [g_t hfr, lt_d, g_t hfr, lt_d, if_neg e', r2]; rfl
  obtain ⟨c1, m1, A1, A2, A3, A4, A5, A6, A7, A8, A9, A10⟩ := A
  have k0 : ∀ n j, c1.1 0 n j = c.1 0 n j ∧ c1.2.1 0 n j = c.2.1 0 n j ∧ c1.2.2 0 n j = c.2.2 0 n j := fun n j => A7 0 n j rfl
  have k1 : m1.1 135 0 (f id) = m.1 135 0 (f id) := (A8 135 0 (f id) rfl).1
  have hv1 : lv c1 id := ⟨hv.1, hv.2.1, by rw [(k0 id 9).1]; exact hv.2.2⟩
  rw [A1, A2]
  have fin : ∀ c2 : JM, (∀ l j i, c2.2.2 4 l j = some i → c1.2.2 4 l j = some i ∧ (i = id → c.2.2 0 id 3 = some l → j ≠ 11 ∧ j ≠ 12 ∧ j ≠ 13)) → (∀ t i, c2.2.2 8 t 3 = some i → c1.2.2 8 t 3 = some i ∧ (i = id → c.2.2 0 id 4 ≠ some t)) →
      (∀ l j, j = 11 ∨ j = 12 ∨ j = 13 → c2.2.2 4 l j ≠ some id) ∧ (∀ t, 0 ≤ t → t < 32 → c2.2.2 8 t 3 ≠ some id) := fun c2 q1 q2 => by
    constructor
    · intro l j hj z
      have b1 := q1 l j id z
      have b2 := A9 l j id b1.1
      have b3 := b1.2 rfl
      have b4 := b2.2 rfl
      have e1 := h_wa l id
      have e2 := h_wo l id
      have e3 := h_wr l id
      grind
    · intro t t0 t1 z
      have b1 := q2 t id z
      have b2 := A10 t id b1.1
      have b3 := b1.2 rfl
      have b4 := b2.2 rfl
      have e1 := h_t3 t t0 t1 (hY t t0 b2.1)
      grind
  by_cases w2 : w = 2
  · have e' : w' = m.1 137 0 (f id) := by omega
    refine ⟨c1, m1, ?_, ?_, A3, A4, A5, hmono (by omega) A6, A7, A8, ?_⟩
    · unfold F11_end_19; rw [if_pos w2]
    · unfold F12_over_72
      by_cases z : m.1 137 0 (f id) = -1
      · rw [if_pos z]
      · rw [if_neg z, if_pos e'.symm]
    · refine fin c1 (fun l j i z => ⟨z, fun q q2 => ?_⟩) (fun t i z => ⟨z, fun q q2 => ?_⟩)
      · subst q
        have b := (A9 l j i z).1
        have := (hcB w2).1 l
        grind
      · subst q
        exact (hcB w2).2 t q2 (A10 t i z).1
  · have e' : m.1 137 0 (f id) = -1 ∨ m.1 137 0 (f id) ≠ w' := by omega
    by_cases z : m.1 137 0 (f id) = -1
    · have b1 : c.2.2 0 id 3 = none ∧ c.2.2 0 id 4 = none := by grind
      refine ⟨c1, m1, ?_, ?_, A3, A4, A5, hmono (by omega) A6, A7, A8, ?_⟩
      · unfold F11_end_19; rw [if_neg w2]; show (F11_tellEnd _ _ _ _ _).bind _ = _
        rw [(k0 id 3).2.2, (k0 id 4).2.2, b1.1, b1.2]; rfl
      · unfold F12_over_72; rw [if_pos z]
      · exact fin c1 (fun l j i z => ⟨z, fun _ q2 => by rw [b1.1] at q2; cases q2⟩) (fun t i z => ⟨z, fun _ q2 => by rw [b1.2] at q2; cases q2⟩)
    · have hs : (0 ≤ m.1 137 0 (f id) ∧ m.1 137 0 (f id) < 16 ∧ c.2.2 0 id 3 = some (m.1 137 0 (f id)) ∧ c.2.2 0 id 4 = none ∧ m.1 137 0 (f id) ≠ X) ∨ (100 ≤ m.1 137 0 (f id) ∧ m.1 137 0 (f id) < 100 + N ∧ c.2.2 0 id 3 = none ∧ c.2.2 0 id 4 = some (16 * m1.1 135 0 (f id) + m.1 137 0 (f id) - 100) ∧ 16 * m1.1 135 0 (f id) + m.1 137 0 (f id) - 100 ≠ Y ∧ (c1.2.2 0 id 2 = c.2.2 0 id 4 ∨ c1.2.2 0 id 4 = c.2.2 0 id 4) ∧ (∀ i, c1.2.2 8 (16 * m1.1 135 0 (f id) + m.1 137 0 (f id) - 100) 3 = some i → i = id)) ∨ (200 ≤ m.1 137 0 (f id) ∧ c.2.2 0 id 3 = none ∧ c.2.2 0 id 4 = none) := by
        rcases hsb with b | ⟨b1, b2, b3, b4, b5, b6⟩ | ⟨b1, b2, b3, b4, b5, b6⟩ | ⟨b1, b2, b3, b4, b5, b6⟩ | ⟨b1, b2, b3, b4, b5, b6, b7⟩
        · exact absurd b.1 z
        · have := hXB w2
          exact Or.inl ⟨by omega, by omega, b3, b4, fun z => this (by rw [b3, z])⟩
        · have q := hTB w2 _ b4
          rw [k1]
          exact Or.inr (Or.inl ⟨b1, b2, b3, b4, hY _ (by omega) q, Or.inr (k0 id 4).2.2, fun i z => by
            have := (A10 _ i z).1
            rw [q] at this; cases this; rfl⟩)
        · exact Or.inr (Or.inr ⟨b1, b3, b4⟩)
        · exact Or.inr (Or.inr ⟨by omega, b3, b4⟩)
      obtain ⟨c2, m2, r1, r2, r3, r4, r5, r6, r7, r8, r9, r10⟩ := p_tell hf (by omega) hw hv1 A3 A4 A5 A6 hs
      refine ⟨c2, m2, ?_, ?_, r3, r4, r5, hmono (by omega) r6, so_tr A7 r7, so_tr A8 r8, fin c2 r9 (fun t i z => ⟨(r10 t i z).1, fun _ => (r10 t i z).2⟩)⟩
      · unfold F11_end_19; rw [if_neg w2]; show (F11_tellEnd _ _ _ _ _).bind _ = _
        rw [(k0 id 3).2.2, (k0 id 4).2.2, r1]; rfl
      · unfold F12_over_72; rw [if_neg z, if_neg (by omega), r2]; rfl

theorem t_dead (hf : f_ok f) {id z : Int} (hv : lv c id) (H : r_h f N id z2 X sec Y zd c m) (hs : sec ≠ some id) (h1 : ∀ l j, j = 11 ∨ j = 12 ∨ j = 13 → c.2.2 4 l j ≠ some id) (h2 : ∀ t, 0 ≤ t → t < 32 → c.2.2 8 t 3 ≠ some id) :
    r_h f N z z2 X sec Y zd (sI c 0 id 9 (-1)) (sI m 133 0 (f id) (-1)) := by
  obtain ⟨h_st, h_sx, h_hm, h_sa, h_sb, h_gp, h_ky, h_k1, h_fw, h_fr, h_ce, h_an, h_zn, h_rw, h_la, h_lo, h_lr, h_wa, h_wo, h_wx, h_wr, h_w3, h_w4, h_w8, h_w9, h_w5, h_t1, h_t2, h_t3, h_t6, h_t9, h_ty, h_xx, h_zr⟩ := H
  have inj := hf.1
  have h11 : ∀ l, c.2.2 4 l 11 ≠ some id := fun l => h1 l 11 (by omega)
  have h12 : ∀ l, c.2.2 4 l 12 ≠ some id := fun l => h1 l 12 (by omega)
  have h13 : ∀ l, c.2.2 4 l 13 ≠ some id := fun l => h1 l 13 (by omega)
  have hlv : ∀ i, lv (sI c 0 id 9 (-1)) i → i ≠ id ∧ lv c i := fun i hi => by
    unfold lv at hi ⊢
    rw [rI_I] at hi
    by_cases q : i = id
    · rw [if_pos ⟨rfl, q, rfl⟩] at hi; exact absurd rfl hi.2.2
    · rw [if_neg (fun z => q z.2.1)] at hi; exact ⟨q, hi⟩
  refine ⟨?_, ?_, ?_, ?_, ?_, ?_, ?_, ?_, ?_, ?_, ?_, ?_, ?_, ?_, ?_, ?_, ?_, ?_, ?_, ?_, ?_, ?_, ?_, ?_, ?_, ?_, ?_, ?_, ?_, ?_, ?_, ?_, ?_, ?_⟩
  · -- st
    simp only [d_st, lv, rI_I, rI_L, rI_R, rL_I, rL_L, rL_R, rR_I, rR_L, rR_R] at h_st ⊢; grind [rf]
  · -- sx
    simp only [d_sx, lv, rI_I, rI_L, rI_R, rL_I, rL_L, rL_R, rR_I, rR_L, rR_R] at h_sx ⊢; grind [rf]
  · -- hm
    intro i hi
    obtain ⟨q, hv1⟩ := hlv i hi
    have := h_hm i hv1
    simpa [rI_I, rI_L, rI_R, q] using this
  · -- sa
    intro i hi
    obtain ⟨q, hv1⟩ := hlv i hi
    have := h_sa i hv1
    simpa [rI_I, rI_L, rI_R, q] using this
  · -- sb
    intro i hi
    obtain ⟨q, hv1⟩ := hlv i hi
    have := h_sb i hv1
    simpa [rI_I, rI_L, rI_R, q] using this
  · -- gp
    intro i hi
    obtain ⟨q, hv1⟩ := hlv i hi
    have := h_gp i hv1
    simpa [rI_I, rI_L, rI_R, q] using this
  · -- ky
    intro i hi
    obtain ⟨q, hv1⟩ := hlv i hi
    have := h_ky i hv1
    simpa [rI_I, rI_L, rI_R, q] using this
  · -- k1
    intro i hi
    obtain ⟨q, hv1⟩ := hlv i hi
    have := h_k1 i hv1
    simpa [rI_I, rI_L, rI_R, q] using this
  · -- fw
    intro i hi
    obtain ⟨q, hv1⟩ := hlv i hi
    have := h_fw i hv1
    simpa [rI_I, rI_L, rI_R, q] using this
  · -- fr
    intro i hi
    obtain ⟨q, hv1⟩ := hlv i hi
    have := h_fr i hv1
    simpa [rI_I, rI_L, rI_R, q] using this
  · -- ce
    intro i hi
    obtain ⟨q, hv1⟩ := hlv i hi
    have := h_ce i hv1
    simpa [rI_I, rI_L, rI_R, q] using this
  · -- an
    intro i hi
    obtain ⟨q, hv1⟩ := hlv i hi
    have := h_an i hv1
    simpa [rI_I, rI_L, rI_R, q] using this
  · -- zn
    intro i hi
    obtain ⟨q, hv1⟩ := hlv i hi
    have := h_zn i hv1
    simpa [rI_I, rI_L, rI_R, q] using this
  · -- rw
    intro i hi
    obtain ⟨q, hv1⟩ := hlv i hi
    have := h_rw i hv1
    simpa [rI_I, rI_L, rI_R, q] using this
  · -- la
    simpa [d_la, lv, rI_I, rI_L, rI_R, rL_I, rL_L, rL_R, rR_I, rR_L, rR_R] using h_la
  · -- lo
    simpa [d_lo, lv, rI_I, rI_L, rI_R, rL_I, rL_L, rL_R, rR_I, rR_L, rR_R] using h_lo
  · -- lr
    simpa [d_lr, lv, rI_I, rI_L, rI_R, rL_I, rL_L, rL_R, rR_I, rR_L, rR_R] using h_lr
  · -- wa
    simp only [d_wa, lv, rI_I, rI_L, rI_R, rL_I, rL_L, rL_R, rR_I, rR_L, rR_R] at h_wa ⊢; grind [rf]
  · -- wo
    simp only [d_wo, lv, rI_I, rI_L, rI_R, rL_I, rL_L, rL_R, rR_I, rR_L, rR_R] at h_wo ⊢; grind [rf]
  · -- wx
    simp only [d_wx, lv, rI_I, rI_L, rI_R, rL_I, rL_L, rL_R, rR_I, rR_L, rR_R] at h_wx ⊢; grind [rf]
  · -- wr
    simp only [d_wr, lv, rI_I, rI_L, rI_R, rL_I, rL_L, rL_R, rR_I, rR_L, rR_R] at h_wr ⊢; grind [rf]
  · -- w3
    simpa [d_w3, lv, rI_I, rI_L, rI_R, rL_I, rL_L, rL_R, rR_I, rR_L, rR_R] using h_w3
  · -- w4
    simp only [d_w4, lv, rI_I, rI_L, rI_R, rL_I, rL_L, rL_R, rR_I, rR_L, rR_R] at h_w4 ⊢; grind [rf]
  · -- w8
    simp only [d_w8, lv, rI_I, rI_L, rI_R, rL_I, rL_L, rL_R, rR_I, rR_L, rR_R] at h_w8 ⊢; grind [rf]
  · -- w9
    simp only [d_w9, lv, rI_I, rI_L, rI_R, rL_I, rL_L, rL_R, rR_I, rR_L, rR_R] at h_w9 ⊢; grind [rf]
  · -- w5
    simp only [d_w5, lv, rI_I, rI_L, rI_R, rL_I, rL_L, rL_R, rR_I, rR_L, rR_R] at h_w5 ⊢; grind [rf]
  · -- t1
    simpa [d_t1, lv, rI_I, rI_L, rI_R, rL_I, rL_L, rL_R, rR_I, rR_L, rR_R] using h_t1
  · -- t2
    simpa [d_t2, lv, rI_I, rI_L, rI_R, rL_I, rL_L, rL_R, rR_I, rR_L, rR_R] using h_t2
  · -- t3
    simp only [d_t3, lv, rI_I, rI_L, rI_R, rL_I, rL_L, rL_R, rR_I, rR_L, rR_R] at h_t3 ⊢; grind [rf]
  · -- t6
    simp only [d_t6, lv, rI_I, rI_L, rI_R, rL_I, rL_L, rL_R, rR_I, rR_L, rR_R] at h_t6 ⊢; grind [rf]
  · -- t9
    simp only [d_t9, lv, rI_I, rI_L, rI_R, rL_I, rL_L, rL_R, rR_I, rR_L, rR_R] at h_t9 ⊢; grind [rf]
  · -- ty
    simpa [d_ty, lv, rI_I, rI_L, rI_R, rL_I, rL_L, rL_R, rR_I, rR_L, rR_R] using h_ty
  · -- xx
    simp only [d_xx, lv, rI_I, rI_L, rI_R, rL_I, rL_L, rL_R, rR_I, rR_L, rR_R] at h_xx ⊢; grind [rf]
  · -- zr
    simp only [d_zr, lv, rI_I, rI_L, rI_R, rL_I, rL_L, rL_R, rR_I, rR_L, rR_R] at h_zr ⊢; grind [rf]

end RE
