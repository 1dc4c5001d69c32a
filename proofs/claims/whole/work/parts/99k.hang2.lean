/-! ===== a line is hung up ===== -/
section SE
variable {f : Int → Int} {N z1 z2 X : Int} {sec : Option Int} {Y zd : Int} {c m c' m' : JM} {B B' : Int} {H : HT}
theorem p_hang (hf : f_ok f) (hB : B + 30 < 2000000000) {l : Int} (hl : 0 ≤ l ∧ l < 16) (h6 : c.1 4 l 6 ≠ 0) (R : relN f N B H c m) :
    ∃ c' m', F11_hang (some l) (c_chg c l 0) = some c' ∧ F12_hangs l m = some m' ∧ relN f N (B + 6) H c' m' ∧ so w_C (c_chg c l 0) c' ∧ so w_M (m_chg m l 0) m' := by
  have R0 := R
  have HH := R.2.2.1
  obtain ⟨h_st, h_sx, h_hm, h_sa, h_sb, h_gp, h_ky, h_k1, h_fw, h_fr, h_ce, h_an, h_zn, h_rw, h_la, h_lo, h_lr, h_wa, h_wo, h_wx, h_wr, h_w3, h_w4, h_w8, h_w9, h_w5, h_t1, h_t2, h_t3, h_t6, h_t9, h_ty, h_xx, h_zr⟩ := HH
  have h13 : c.2.2 4 l 13 = none := by
    cases q : c.2.2 4 l 13 with
    | none => rfl
    | some i => exact absurd (h_wr l i q).2.2.2.2.2 h6
  obtain ⟨z1, hz1⟩ : ∃ z1, ∀ i, c.2.2 4 l 11 = some i → i = z1 := by
    cases q : c.2.2 4 l 11 with
    | none => exact ⟨-1, fun i q => by cases q⟩
    | some a => exact ⟨a, fun i q => by cases q; rfl⟩
  obtain ⟨z2, hz2, hz2n⟩ : ∃ z2, (∀ i, c.2.2 4 l 12 = some i → i = z2) ∧ (c.2.2 4 l 12 = none → z2 = -1) := by
    cases q : c.2.2 4 l 12 with
    | none => exact ⟨-1, (fun i q => by cases q), fun _ => rfl⟩
    | some a => exact ⟨a, (fun i q => by cases q; rfl), fun q => by cases q⟩
  have t := t_hang (l := l) (z1 := z1) (z2 := z2) hf ⟨hl.1, hl.2, h6⟩ hz1 hz2 R.2.2.1
  have hnow : m.1 12 0 2 = c.1 11 0 10 := R.1.2.2.2.2.2.2.2.1
  obtain ⟨cA, hcA⟩ : ∃ x, x = sR (sR (c_chg c l 0) 4 l 11 none) 4 l 12 none := ⟨_, rfl⟩
  obtain ⟨mA, hmA⟩ : ∃ x, x = sI (sI (m_chg m l 0) 125 0 l (m.1 12 0 2)) 119 0 l (-1) := ⟨_, rfl⟩
  have t2 : r_h f N z1 z2 l (c.2.2 4 l 12) (-1) (-1) cA mA := by
    refine r_h_cg (fun k n j q => ⟨?_, ?_, ?_⟩) (fun k n j q => ?_) t
    · rw [hcA]
      show (c_chg c l 0).1 k n j = (sI c 4 l 6 0).1 k n j
      rw [c_chg_I, rI_I, if_neg (by simp [rdC] at q; omega)]
    · rw [hcA]; rfl
    · rw [hcA]; rfl
    · rw [hmA]
      simp only [rI_I, m_chg_I]
      simp [rdM] at q
      by_cases z : k = 119 ∧ n = 0 ∧ j = l
      · rw [if_pos z, if_pos z]
      · rw [if_neg z, if_neg z, if_neg (by omega), if_neg (by omega), if_neg (by omega)]
  have hl2 : r_l l cA mA := by
    intro x
    have h := R.2.1 x
    rw [hcA, hmA]
    simp only [rI_I, rR_I, c_chg_I, m_chg_I]
    obtain ⟨g1, g2, g3, g4, g5, g6, g7, g8, g9, g10, g11, g12, g13⟩ := h
    refine ⟨?_, ?_, ?_, ?_, ?_, ?_, ?_, ?_, ?_, ?_, ?_, ?_, ?_⟩
    all_goals grind
  have scA : so w_hl c cA := by
    rw [hcA]
    exact so_R (so_R (so_I (so_I (so_I (so_I (so_I (so_rfl c) rfl _ _) rfl _ _) rfl _ _) rfl _ _) rfl _ _) rfl _ _) rfl _ _
  have smA : so w_hlm m mA := by
    rw [hmA]
    exact so_I (so_I (so_I (so_I (so_I (so_I (so_I (so_rfl m) rfl _ _) rfl _ _) rfl _ _) rfl _ _) rfl _ _) rfl _ _) rfl _ _
  have cA0 : ∀ n j, cA.1 0 n j = c.1 0 n j := fun n j => by rw [hcA]; show (c_chg c l 0).1 0 n j = _; rw [c_chg_I, if_neg (by omega), if_neg (by omega)]
  have cAr : ∀ k n j, k ≠ 4 → cA.2.2 k n j = c.2.2 k n j := fun k n j q => by rw [hcA, rR_R, rR_R, if_neg (by omega), if_neg (by omega)]; rfl
  have mA3 : ∀ k j, k = 133 ∨ k = 135 ∨ k = 137 ∨ k = 120 ∨ k = 12 → mA.1 k 0 j = m.1 k 0 j := fun k j q => by
    rw [hmA]
    simp only [rI_I, m_chg_I]
    rw [if_neg (by omega), if_neg (by omega), if_neg (by omega), if_neg (by omega)]
  have R1 : rel f N z1 z2 l (c.2.2 4 l 12) (-1) (-1) B H cA mA := by
    refine rel_hl hf R hl2 t2 scA smA (fun n => ?_) (fun s s0 s1 => ?_)
    · rw [cA0, cA0, cAr 0 n 5 (by decide)]
      exact ⟨Iff.rfl, fun _ => ⟨rfl, rfl⟩, Iff.rfl⟩
    · rw [mA3 133 s (by omega), mA3 135 s (by omega), mA3 137 s (by omega)]
      exact ⟨Iff.rfl, fun _ _ _ _ => Iff.rfl⟩
  have sc1 : so w_C (c_chg c l 0) cA := by rw [hcA]; exact so_R (so_R (so_rfl _) rfl _ _) rfl _ _
  have sm1 : so w_M (m_chg m l 0) mA := by rw [hmA]; exact so_I (so_I (so_rfl _) rfl _ _) rfl _ _
  have cA6 : cA.1 4 l 6 = 0 := by rw [hcA]; show (c_chg c l 0).1 4 l 6 = 0; rw [c_chg_I, if_neg (by omega), if_pos ⟨rfl, rfl, rfl⟩]
  have cA13 : cA.2.2 4 l 13 = none := by rw [hcA, rR_R, rR_R, if_neg (by omega), if_neg (by omega)]; exact h13
  have sA : pS l mA := by unfold pS; rw [mA3 12 2 (by omega), hmA, rI_I, if_neg (by omega), rI_s]
  -- the class and the reference up to the first call's end
  have E1 : F11_hang (some l) (c_chg c l 0) = if c.2.2 4 l 11 = none then F11_hang_44 (some l) (c.2.2 4 l 12) cA else (c.2.2 4 l 11).bind (fun a12 => if cA.2.2 0 a12 1 = some l then F11_hang_41 (some l) (c.2.2 4 l 12) (some 0) (some a12) 7 1 cA else F11_hang_41 (some l) (c.2.2 4 l 12) (some 0) (some a12) 7 2 cA) := by
    rw [hcA]; rfl
  have E2 : F12_hangs l m = if m.1 119 0 l = -1 then F12_hangs_49 l mA else (F12_over (m.1 119 0 l) 7 l mA).bind (fun h10 => F12_hangs_49 l h10) := by
    unfold F12_hangs
    rw [g_t hl, lt_d, f_clears hl, Option.bind_some]
    simp only [g_t hl, lt_d]
    have e1 : (m_chg m l 0).1 12 0 2 = m.1 12 0 2 := by rw [m_chg_I, if_neg (by omega), if_neg (by omega)]
    have e2 : (sI (m_chg m l 0) 125 0 l (m.1 12 0 2)).1 119 0 l = m.1 119 0 l := by rw [rI_o (by omega), m_chg_I, if_neg (by omega), if_neg (by omega)]
    rw [e1, e2, hmA]
  have hla := h_la l hl.1 hl.2
  have S1 : ∃ c1 m1, F11_hang (some l) (c_chg c l 0) = F11_hang_44 (some l) (c.2.2 4 l 12) c1 ∧ F12_hangs l m = F12_hangs_49 l m1 ∧ rel f N (-1) z2 l (c.2.2 4 l 12) (-1) (-1) (B + 3) H c1 m1 ∧ so w_C (c_chg c l 0) c1 ∧ so w_M (m_chg m l 0) m1 ∧ (∀ b, c.2.2 4 l 12 = some b → ∀ j, c1.1 0 b j = c.1 0 b j) ∧ c1.2.2 4 l 13 = none ∧ (∀ t, (c.2.2 4 l 12 = some z2 ∧ (c.2.2 0 z2 2 = some t ∨ c.2.2 0 z2 4 = some t)) → c1.2.2 8 t 3 = some z2) ∧ pS l m1 ∧ c1.1 4 l 6 = 0 ∧ (∀ n j, j ≠ 9 → c1.2.2 0 n j = c.2.2 0 n j) := by
    have hQ : ∀ t, (c.2.2 4 l 12 = some z2 ∧ (c.2.2 0 z2 2 = some t ∨ c.2.2 0 z2 4 = some t)) → cA.2.2 8 t 3 = some z2 := fun t q => by
      rw [cAr 8 t 3 (by decide)]
      have v := (h_wo l z2 q.1).2.2.1
      exact h_t6 z2 t v (by have := v.1; omega) (by have := v.1; omega) q.2
    cases q11 : c.2.2 4 l 11 with
    | none =>
      refine ⟨cA, mA, ?_, ?_, ?_, sc1, sm1, fun b _ j => cA0 b j, cA13, hQ, sA, cA6, fun n j _ => cAr 0 n j (by decide)⟩
      · rw [E1, q11, if_pos rfl]
      · rw [E2, hla, q11]; rfl
      · have R2 : rel f N (-1) z2 l (c.2.2 4 l 12) (-1) (-1) B H cA mA := ⟨R1.1, R1.2.1, by
          have t := t_hang (l := l) (z1 := -1) (z2 := z2) hf ⟨hl.1, hl.2, h6⟩ (fun i q => by rw [q11] at q; cases q) hz2 R.2.2.1
          refine r_h_cg (fun k n j q => ⟨?_, ?_, ?_⟩) (fun k n j q => ?_) t
          · rw [hcA]
            show (c_chg c l 0).1 k n j = (sI c 4 l 6 0).1 k n j
            rw [c_chg_I, rI_I, if_neg (by simp [rdC] at q; omega)]
          · rw [hcA]; rfl
          · rw [hcA]; rfl
          · rw [hmA]
            simp only [rI_I, m_chg_I]
            simp [rdM] at q
            by_cases z : k = 119 ∧ n = 0 ∧ j = l
            · rw [if_pos z, if_pos z]
            · rw [if_neg z, if_neg z, if_neg (by omega), if_neg (by omega), if_neg (by omega)], R1.2.2.2⟩
        exact rel_mono (by omega) R2
    | some a =>
      have ea : a = z1 := hz1 a q11
      subst ea
      obtain ⟨_, _, va, ha⟩ := h_wa l a q11
      have vA : lv cA a := ⟨va.1, va.2.1, by rw [cA0]; exact va.2.2⟩
      have hx := h_wx l
      have hab : z2 ≠ a := fun z => by
        cases q12 : c.2.2 4 l 12 with
        | none => have := hz2n q12; have := va.1; omega
        | some b => have e := hz2 b q12; exact (hx b a q12 q11).2 (by omega)
      obtain ⟨c1, m1, e1, e2, e3, e4, e5, e6, e7, e8, e9⟩ := p_hg1 (a := a) (l := l) (w := if cA.2.2 0 a 1 = some l then 1 else 2) (b := z2) (Q := fun t => c.2.2 4 l 12 = some z2 ∧ (c.2.2 0 z2 2 = some t ∨ c.2.2 0 z2 4 = some t)) hf (by omega) vA R1 (fun q => (hx a a q q11).2 rfl) (by rw [cAr 0 a 1 (by decide), cAr 0 a 3 (by decide)]; rcases ha with w | w; exact Or.inl w; exact Or.inr w.1)
        (fun t q => by
          rw [cAr 0 a 2 (by decide), cAr 0 a 4 (by decide)] at q
          rw [cAr 8 t 3 (by decide)]
          exact h_t6 a t va (by have := va.1; omega) (by have := va.1; omega) q) hl cA6 cA13 rfl hQ hab sA
      refine ⟨c1, m1, ?_, ?_, e3, so_tr sc1 (so_mono w_b5 e4), so_tr sm1 (so_mono w_b6 e5), fun b q j => ?_, e7, e8, e9, (e4 4 l 6 rfl).1.trans cA6, fun n j q => ((e4 0 n j (by simp [w_end, q])).2.2).trans (cAr 0 n j (by decide))⟩
      · rw [E1, q11, if_neg (by simp), Option.bind_some]
        by_cases y : cA.2.2 0 a 1 = some l
        · rw [if_pos y] at e1 ⊢
          unfold F11_hang_41
          rw [Option.bind_some, g_t rfl, e1, Option.bind_some]
        · rw [if_neg y] at e1 ⊢
          unfold F11_hang_41
          rw [Option.bind_some, g_t rfl, e1, Option.bind_some]
      · rw [E2, hla, q11, show rf f (some a) = f a from rfl, if_neg (hf.2.1 a), e2, Option.bind_some]
      · rw [e6, if_neg (fun z => (hx b a q q11).2 z.1), cA0]
  obtain ⟨c1, m1, s1, s2, s3, s4, s5, s6, s7, s8, s9, s10, s11⟩ := S1
  have xx := s3.2.2.1.2.2.2.2.2.2.2.2.2.2.2.2.2.2.2.2.2.2.2.2.2.2.2.2.2.2.2.2.2.2.2.2.1 hl.1
  have RB : rel f N (-1) z2 l none (-1) (-1) (B + 3) H c1 (sI m1 120 0 l (-1)) := rel_h hf s3 (t_hang2 hf s3.2.2.1) (so_rfl c1) (so_I (so_rfl m1) rfl _ _) (fun n => ⟨Iff.rfl, fun _ => ⟨rfl, rfl⟩, Iff.rfl⟩) (fun s _ _ => by simp [rI_I])
  have sB : pS l (sI m1 120 0 l (-1)) := pS_I s9 _ _ _ (by decide) (by simp)
  have E3 : F12_hangs_49 l m1 = if m1.1 120 0 l = -1 then F12_hangs_76 l (sI m1 120 0 l (-1)) else (F12_over (m1.1 120 0 l) 7 l (sI m1 120 0 l (-1))).bind (fun h4 => F12_hangs_76 l h4) := by
    unfold F12_hangs_49
    simp only [g_t hl, lt_d]
  have S2 : ∃ c2 m2, F11_hang_44 (some l) (c.2.2 4 l 12) c1 = F11_hang_68 (some l) c2 ∧ F12_hangs_49 l m1 = F12_hangs_76 l m2 ∧ rel f N (-1) (-1) l none (-1) (-1) (B + 6) H c2 m2 ∧ so w_C c1 c2 ∧ so w_M m1 m2 ∧ pS l m2 := by
    cases q12 : c.2.2 4 l 12 with
    | none =>
      have e := hz2n q12
      subst e
      refine ⟨c1, sI m1 120 0 l (-1), ?_, ?_, rel_mono (by omega) RB, so_rfl _, so_I (so_rfl m1) rfl _ _, sB⟩
      · unfold F11_hang_44; rw [if_pos rfl]
      · rw [E3, xx.2.2.1, q12]; rfl
    | some b =>
      have e := hz2 b q12
      subst e
      have vb0 := (h_wo l b q12).2.2.1
      have vb : lv c1 b := ⟨vb0.1, vb0.2.1, by rw [s6 b q12]; exact vb0.2.2⟩
      have hsd := (xx.2.2.2 b q12).2
      obtain ⟨c2, m2, e1, e2, e3, e4, e5, e6, e7, e8, e9⟩ := p_hg1 (a := b) (l := l) (w := if c1.2.2 0 b 1 = some l then 1 else 2) (b := -1) (Q := fun _ => False) hf (by omega) vb ⟨RB.1, RB.2.1, r_h_sw RB.2.2.1, RB.2.2.2⟩ (by simp) (by rcases hsd with w | w; exact Or.inl w.1; exact Or.inr w.1)
        (fun t q => s8 t ⟨q12, by rw [s11 b 2 (by decide), s11 b 4 (by decide)] at q; exact q⟩) hl s10 s7 rfl (fun _ q => q.elim) (by have := vb0.1; omega) sB
      refine ⟨c2, m2, ?_, ?_, rel_mono (by omega) e3, so_mono w_b5 e4, so_tr (so_I (so_rfl m1) rfl _ _) (so_mono w_b6 e5), e9⟩
      · unfold F11_hang_44
        rw [if_neg (by simp), Option.bind_some]
        by_cases y : c1.2.2 0 b 1 = some l
        · rw [if_pos y] at e1 ⊢
          unfold F11_hang_65
          rw [Option.bind_some, g_t rfl, e1, Option.bind_some]
        · rw [if_neg y] at e1 ⊢
          unfold F11_hang_65
          rw [Option.bind_some, g_t rfl, e1, Option.bind_some]
      · rw [E3, xx.2.2.1, q12, show rf f (some b) = f b from rfl, if_neg (hf.2.1 b), e2, Option.bind_some]
  obtain ⟨c2, m2, u1, u2, u3, u4, u5, u6⟩ := S2
  have hnow2 : m2.1 12 0 2 = c2.1 11 0 10 := u3.1.2.2.2.2.2.2.2.1
  refine ⟨sI (sI c2 4 l 15 0) 4 l 16 (c2.1 11 0 10), sI m2 123 0 l 0, ?_, ?_, ?_, so_I (so_I (so_tr s4 u4) rfl _ _) rfl _ _, so_I (so_tr s5 u5) rfl _ _⟩
  · rw [s1, u1]; unfold F11_hang_68; rw [Option.bind_some]; simp only [lt_d]; rw [rI_o (by omega)]
  · rw [s2, u2]; unfold F12_hangs_76; simp only [g_t hl, lt_d]
  · refine rel_hl hf u3 (fun x => ?_) (r_h_cg (c := c2) (m := m2) (fun k n j q => ⟨?_, rfl, rfl⟩) (fun k n j q => ?_) (r_h_cl hl.1 u3.2.2.1)) (so_I (so_I (so_rfl c2) rfl _ _) rfl _ _) (so_I (so_rfl m2) rfl _ _) (fun n => ?_) (fun s _ _ => ?_)
    · have h := u3.2.1 x
      have hS : m2.1 125 0 l = c2.1 11 0 10 := by rw [← hnow2]; exact u6
      obtain ⟨g1, g2, g3, g4, g5, g6, g7, g8, g9, g10, g11, g12, g13⟩ := h
      simp only [rI_I]
      clear R R0 R1 u3 s3 RB hl2 t t2
      refine ⟨?_, ?_, ?_, ?_, ?_, ?_, ?_, ?_, ?_, ?_, ?_, ?_, ?_⟩
      all_goals grind
    · rw [rI_o (by simp [rdC] at q; omega), rI_o (by simp [rdC] at q; omega)]
    · rw [rI_o (by simp [rdM] at q; omega)]
    · simp [rI_I, rI_R]
    · simp [rI_I]
end SE
