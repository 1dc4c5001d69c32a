/-! ===== a tick looks at all lines ===== -/
section SJ
variable {f : Int → Int} {N z1 z2 X : Int} {sec : Option Int} {Y zd : Int} {c m c' m' : JM} {B B' : Int} {H : HT}
abbrev aL : Int → Prop := fun _ => True
theorem rel_up {h h' : Int} {L : Int → Prop} (R : rel f N z1 z2 X sec Y zd B (h, L) c m) (h1 : h ≤ h') (h2 : h' ≤ 72) : rel f N z1 z2 X sec Y zd B (h', aL) c m := by
  obtain ⟨R1, R2, R3, R4, R5, R6, R7, R8, R9, R10⟩ := R
  obtain ⟨g1, g2, g3, g4, g5, g6, g7, g8, g9⟩ := R7
  exact ⟨R1, R2, R3, R4, R5, R6, ⟨⟨g1.1, by have := g1.2.1; dsimp only at this ⊢; omega, h2⟩, g2, g3, g4, g5, g6, g7, g8, fun _ _ => True.intro⟩, R8, R9, R10⟩
theorem d_chg {l v : Int} (D : r_d c m) : r_d (c_chg c l v) (m_chg m l v) := fun x a b => by
  obtain ⟨e1, e2, e3, e4⟩ := D x a b
  by_cases y : x = l
  · subst y
    have q4 : (c_chg c x v).1 4 x 4 = 0 := by rw [c_chg_I, if_pos (by omega)]
    have q8 : (c_chg c x v).1 4 x 8 = 0 := by rw [c_chg_I, if_pos (by omega)]
    have q9 : (c_chg c x v).1 4 x 9 = 0 := by rw [c_chg_I, if_pos (by omega)]
    rw [q4, q8, q9]
    exact ⟨by omega, by omega, by omega, fun j j0 j1 => by omega⟩
  · have q4 : (c_chg c l v).1 4 x 4 = c.1 4 x 4 := by rw [c_chg_I, if_neg (by omega), if_neg (by omega)]
    have q8 : (c_chg c l v).1 4 x 8 = c.1 4 x 8 := by rw [c_chg_I, if_neg (by omega), if_neg (by omega)]
    have q9 : (c_chg c l v).1 4 x 9 = c.1 4 x 9 := by rw [c_chg_I, if_neg (by omega), if_neg (by omega)]
    have q10 : (c_chg c l v).1 4 x 10 = c.1 4 x 10 := by rw [c_chg_I, if_neg (by omega), if_neg (by omega)]
    rw [q4, q8, q9, q10]
    refine ⟨e1, e2, e3, fun j j0 j1 => ?_⟩
    rw [c_chg_I, if_neg (by omega), if_neg (by omega), m_chg_I, if_neg (by omega), if_neg (by omega)]
    exact e4 j j0 j1
theorem s_chg (c : JM) (l v : Int) : so w_W c (c_chg c l v) := so_I (so_I (so_I (so_I (so_I (so_rfl c) rfl _ _) rfl _ _) rfl _ _) rfl _ _) rfl _ _
theorem s_chgm (m : JM) (l v : Int) : so w_V m (m_chg m l v) := so_I (so_I (so_I (so_I (so_I (so_rfl m) rfl _ _) rfl _ _) rfl _ _) rfl _ _) rfl _ _
theorem p_look (hf : f_ok f) (hB : B + 100 < 2000000000) {h l : Int} (hl : 0 ≤ l ∧ l < 16) (hh : h + 1 ≤ 72) (R : relN f N B (h, aL) c m) (D : r_d c m) :
    ∃ f' c' m', f_ok f' ∧ (∀ k2, F11_watchLines_2b k2 l c = k2 (l + 1) c') ∧ F12_looks l m = some m' ∧ relN f' N (B + 12) (h + 1, aL) c' m' ∧ r_d c' m' ∧ so w_W c c' ∧ so w_V m m' := by
  obtain ⟨g1, g2, g3, g4, g5, g6, _⟩ := R.2.1 l
  obtain ⟨d1, d2, d3, d4⟩ := D l hl.1 hl.2
  have wl : w32 (l + 1) = l + 1 := w32_of (by omega) (by omega)
  have up : ∀ {f' c' m' B'}, B' ≤ B + 12 → relN f' N B' (h, aL) c' m' → relN f' N (B + 12) (h + 1, aL) c' m' := fun hb r => rel_mono hb (rel_up r (by omega) hh)
  by_cases z6 : c.1 4 l 6 = 0
  · by_cases z5 : c.1 4 l 5 = 0
    · refine ⟨f, c, m, hf, fun k2 => ?_, ?_, up (by omega) R, D, so_rfl c, so_rfl m⟩
      · unfold F11_watchLines_2b F4_lookAtLoop
        rw [if_neg (by omega), g_t hl, if_pos z6, if_pos z5, Option.bind_some, if_neg (by simp), if_neg (by simp), if_neg (by simp)]
        unfold F11_watchLines_56 F4_keyOfThisTick F4_keyOfThisTick_14
        dsimp only
        rw [Option.bind_some, if_pos z6, Option.bind_some, if_pos rfl]
        unfold F11_watchLines_75
        rw [wl]
      · unfold F12_looks
        simp only [g_t hl]
        rw [if_pos (by omega), if_pos (by omega)]
    · have EC : ∀ k2, F11_watchLines_2b k2 l c = (F11_lift (some l) (c_chg c l 1)).bind (fun h7 => F11_watchLines_75 k2 l h7) := fun k2 => by
        unfold F11_watchLines_2b F4_lookAtLoop F4_change
        rw [if_neg (by omega), g_t hl, if_pos z6, if_neg z5, g_t (by omega)]
        rfl
      have EM : F12_looks l m = (F12_lifts l m).bind (fun h17 => some h17) := by
        unfold F12_looks
        simp only [g_t hl]
        rw [if_pos (by omega), if_neg (by omega)]
      cases q13 : c.2.2 4 l 13 with
      | none =>
        obtain ⟨f', c', m', L', p0, p1, p2, p3, p4, p5⟩ := p_lift0 hf (by omega) hl z6 q13 hh R
        refine ⟨f', c', m', p0, fun k2 => ?_, by rw [EM, p2, Option.bind_some], rel_mono (by omega) (rel_up p3 (Int.le_refl _) hh), r_d_so p4 p5 (d_chg D), so_tr (s_chg c l 1) (so_mono w_j3 p4), so_tr (s_chgm m l 1) (so_mono w_j4 p5)⟩
        rw [EC, p1, Option.bind_some]
        unfold F11_watchLines_75
        rw [wl]
      | some id =>
        obtain ⟨c', m', p1, p2, p3, p4, p5⟩ := p_liftR hf (by omega) hl q13 R
        refine ⟨f, c', m', hf, fun k2 => ?_, by rw [EM, p2, Option.bind_some], up (by omega) p3, r_d_so (so_mono w_j1 p4) (so_mono w_j2 p5) (d_chg D), so_tr (s_chg c l 1) (so_mono w_h3 p4), so_tr (s_chgm m l 1) (so_mono w_h4 p5)⟩
        rw [EC, p1, Option.bind_some]
        unfold F11_watchLines_75
        rw [wl]
  · -- a step of the loop in both
    have key : ∀ (c1 m1 : JM) (v8 v9 v10 : Int), (∀ k n j, c1.1 k n j = if k = 4 ∧ n = l ∧ j = 8 then v8 else if k = 4 ∧ n = l ∧ j = 9 then v9 else if k = 4 ∧ n = l ∧ j = 10 then v10 else c.1 k n j) → c1.2 = c.2 → (∀ k n j, m1.1 k n j = if k = 114 ∧ n = 0 ∧ j = l then v8 else if k = 116 ∧ n = 0 ∧ j = l then v9 else if k = 115 ∧ n = 0 ∧ j = l then v10 else m.1 k n j) → m1.2 = m.2 → 0 ≤ v8 → 0 ≤ v9 → v9 ≤ 20 → (0 < v10 → v9 ≤ 19) →
        relN f N B (h, aL) c1 m1 ∧ (v8 ≤ 39 → r_d c1 m1) ∧ so w_W c c1 ∧ so w_V m m1 := fun c1 m1 v8 v9 v10 cI c2 mI m2 a8 a9 b9 a10 => by
      have sc : so w_lo c c1 := fun k n j q => by
        refine ⟨?_, by rw [c2], by rw [c2]⟩
        simp [w_lo] at q
        rw [cI, if_neg (by omega), if_neg (by omega), if_neg (by omega)]
      have sm : so w_lom m m1 := fun k n j q => by
        refine ⟨?_, by rw [m2], by rw [m2]⟩
        simp [w_lom] at q
        rw [mI, if_neg (by omega), if_neg (by omega), if_neg (by omega)]
      refine ⟨rel_lo hf R sc sm (fun x => ?_), fun b8 x a b => ?_, so_mono w_j5 sc, so_mono w_j6 sm⟩
      · have g := R.2.1 x
        simp only [cI, mI]
        obtain ⟨g1, g2, g3, g4, g5, g6, g7, g8, g9, g10, g11, g12, g13⟩ := g
        clear R d4 D up cI mI
        refine ⟨?_, ?_, ?_, ?_, ?_, ?_, ?_, ?_, ?_, ?_, ?_, ?_, ?_⟩
        all_goals grind
      · obtain ⟨e1, e2, e3, e4⟩ := D x a b
        have q4 : c1.1 4 x 4 = c.1 4 x 4 := by rw [cI, if_neg (by omega), if_neg (by omega), if_neg (by omega)]
        have q30 : ∀ j, c1.1 30 x j = c.1 30 x j := fun j => by rw [cI, if_neg (by omega), if_neg (by omega), if_neg (by omega)]
        have q117 : ∀ j, m1.1 117 0 j = m.1 117 0 j := fun j => by rw [mI, if_neg (by omega), if_neg (by omega), if_neg (by omega)]
        rw [q4]
        refine ⟨?_, ?_, e3, fun j j0 j1 => by rw [q30, q117]; exact e4 j j0 j1⟩
        · rw [cI]
          by_cases y : x = l
          · rw [if_pos ⟨rfl, y, rfl⟩]; exact ⟨a8, b8⟩
          · rw [if_neg (by omega), if_neg (by omega), if_neg (by omega)]; exact e1
        · by_cases y : x = l
          · have r9 : c1.1 4 x 9 = v9 := by rw [cI, if_neg (by omega), if_pos ⟨rfl, y, rfl⟩]
            have r10 : c1.1 4 x 10 = v10 := by rw [cI, if_neg (by omega), if_neg (by omega), if_pos ⟨rfl, y, rfl⟩]
            rw [r9, r10]; exact ⟨a9, b9, a10⟩
          · have r9 : c1.1 4 x 9 = c.1 4 x 9 := by rw [cI, if_neg (by omega), if_neg (by omega), if_neg (by omega)]
            have r10 : c1.1 4 x 10 = c.1 4 x 10 := by rw [cI, if_neg (by omega), if_neg (by omega), if_neg (by omega)]
            rw [r9, r10]; exact e2
    by_cases z5 : c.1 4 l 5 = 0
    · have w1 : w32 (c.1 4 l 8 + 1) = c.1 4 l 8 + 1 := w32_of (by omega) (by omega)
      obtain ⟨K1, K2, K3, K4⟩ := key (sI c 4 l 8 (c.1 4 l 8 + 1)) (sI m 114 0 l (c.1 4 l 8 + 1)) (c.1 4 l 8 + 1) (c.1 4 l 9) (c.1 4 l 10) (fun k n j => by rw [rI_I]; grind) rfl (fun k n j => by rw [rI_I]; grind) rfl (by omega) d2.1 d2.2.1 d2.2.2
      have c6 : (sI c 4 l 8 (c.1 4 l 8 + 1)).1 4 l 6 ≠ 0 := by rw [rI_o (by omega)]; exact z6
      have c5 : (sI c 4 l 8 (c.1 4 l 8 + 1)).1 4 l 5 = 0 := by rw [rI_o (by omega)]; exact z5
      by_cases z8 : c.1 4 l 8 + 1 < 40
      · refine ⟨f, _, _, hf, fun k2 => ?_, ?_, up (by omega) K1, K2 (by omega), K3, K4⟩
        · unfold F11_watchLines_2b F4_lookAtLoop
          rw [if_neg (by omega), g_t hl, if_neg z6, if_pos z5, w1]
          simp only [lt_d, rI_s]
          rw [if_pos z8, Option.bind_some, if_neg (by simp), if_neg (by simp), if_neg (by simp)]
          unfold F11_watchLines_56 F4_keyOfThisTick F4_keyOfThisTick_14
          dsimp only
          rw [Option.bind_some, if_neg c6, if_pos c5, Option.bind_some, if_pos rfl]
          unfold F11_watchLines_75
          rw [wl]
        · unfold F12_looks
          simp only [g_t hl, lt_d]
          rw [if_neg (by omega), if_pos (by omega), g3, w1, rI_s, if_neg (by omega)]
      · obtain ⟨c', m', p1, p2, p3, p4, p5⟩ := p_hang hf (by omega) hl c6 K1
        refine ⟨f, c', m', hf, fun k2 => ?_, ?_, up (by omega) p3, ?_, so_tr K3 (so_tr (s_chg _ l 0) (so_mono w_h3 p4)), so_tr K4 (so_tr (s_chgm _ l 0) (so_mono w_h4 p5))⟩
        · unfold F11_watchLines_2b F4_lookAtLoop F4_change
          rw [if_neg (by omega), g_t hl, if_neg z6, if_pos z5, w1]
          simp only [lt_d, rI_s]
          rw [if_neg z8, g_t (Or.inl True.intro), Option.bind_some, Option.bind_some]
          dsimp only
          rw [if_neg (by omega), if_pos rfl]
          have p1' := p1
          unfold c_chg at p1'
          rw [p1', Option.bind_some]
          unfold F11_watchLines_75
          rw [wl]
        · unfold F12_looks
          simp only [g_t hl, lt_d]
          rw [if_neg (by omega), if_pos (by omega), g3, w1, rI_s, if_pos (by omega), p2, Option.bind_some]
        · have D2 : r_d (c_chg (sI c 4 l 8 (c.1 4 l 8 + 1)) l 0) (m_chg (sI m 114 0 l (c.1 4 l 8 + 1)) l 0) := by
            have e1 : c_chg (sI c 4 l 8 (c.1 4 l 8 + 1)) l 0 = c_chg c l 0 := jm_ext (fun k n j => by rw [c_chg_I, c_chg_I, rI_I]; grind) (fun _ _ _ => rfl) (fun _ _ _ => rfl)
            have e2 : m_chg (sI m 114 0 l (c.1 4 l 8 + 1)) l 0 = m_chg m l 0 := jm_ext (fun k n j => by rw [m_chg_I, m_chg_I, rI_I]; grind) (fun _ _ _ => rfl) (fun _ _ _ => rfl)
            rw [e1, e2]
            exact d_chg D
          exact r_d_so (so_mono w_j1 p4) (so_mono w_j2 p5) D2
    · by_cases z8 : c.1 4 l 8 < 10
      · by_cases z9 : c.1 4 l 8 ≤ 0
        · obtain ⟨K1, K2, K3, K4⟩ := key (sI c 4 l 8 0) m 0 (c.1 4 l 9) (c.1 4 l 10) (fun k n j => by rw [rI_I]; grind) rfl (fun k n j => by grind) rfl (by omega) d2.1 d2.2.1 d2.2.2
          obtain ⟨c', m', p1, p2, p3, p4, p5, p6⟩ := p_k56 hf (by omega) hl (by rw [rI_o (by omega)]; exact z6) (by rw [rI_o (by omega)]; exact z5) K1 (K2 (by omega))
          refine ⟨f, c', m', hf, fun k2 => ?_, ?_, up (by omega) p3, p4, so_tr K3 p5, so_tr K4 p6⟩
          · unfold F11_watchLines_2b F4_lookAtLoop F4_lookAtLoop_104
            rw [if_neg (by omega), g_t hl, if_neg z6, if_neg z5]
            simp only [lt_d]
            rw [if_pos z8, if_pos z9, Option.bind_some, if_neg (by simp), if_neg (by simp), if_neg (by simp)]
            dsimp only
            rw [p1, wl]
          · unfold F12_looks
            simp only [g_t hl, lt_d]
            rw [if_neg (by omega), if_neg (by omega), if_pos (by omega), if_pos (by omega), p2]
        · have hp : ∀ p, p = w32 (c.1 4 l 10 + 1) → True := fun _ _ => True.intro
          obtain ⟨K1, K2, K3, K4⟩ := key (sI (sI (sI c 4 l 8 0) 4 l 10 (w32 (c.1 4 l 10 + 1))) 4 l 9 0) (sI (sI (sI m 115 0 l (w32 (c.1 4 l 10 + 1))) 116 0 l 0) 114 0 l 0) 0 0 (w32 (c.1 4 l 10 + 1)) (fun k n j => by rw [rI_I, rI_I, rI_I]; grind) rfl (fun k n j => by rw [rI_I, rI_I, rI_I]) rfl (by omega) (by omega) (by omega) (by omega)
          obtain ⟨c', m', p1, p2, p3, p4, p5, p6⟩ := p_k56 hf (by omega) hl (by rw [rI_o (by omega), rI_o (by omega), rI_o (by omega)]; exact z6) (by rw [rI_o (by omega), rI_o (by omega), rI_o (by omega)]; exact z5) K1 (K2 (by omega))
          refine ⟨f, c', m', hf, fun k2 => ?_, ?_, up (by omega) p3, p4, so_tr K3 p5, so_tr K4 p6⟩
          · unfold F11_watchLines_2b F4_lookAtLoop F4_lookAtLoop_104
            rw [if_neg (by omega), g_t hl, if_neg z6, if_neg z5]
            simp only [lt_d]
            rw [if_pos z8, if_neg z9, Option.bind_some, if_neg (by simp), if_neg (by simp), if_neg (by simp)]
            dsimp only
            rw [show (sI c 4 l 8 0).1 4 l 10 = c.1 4 l 10 from rI_o (by omega), p1, wl]
          · unfold F12_looks
            simp only [g_t hl, lt_d]
            rw [if_neg (by omega), if_neg (by omega), if_pos (by omega), if_neg (by omega), g4, p2]
      · obtain ⟨K1, K2, K3, K4⟩ := key (sI (sI c 4 l 8 0) 4 l 10 0) (sI (sI m 115 0 l 0) 114 0 l 0) 0 (c.1 4 l 9) 0 (fun k n j => by rw [rI_I, rI_I]; grind) rfl (fun k n j => by rw [rI_I, rI_I]; grind) rfl (by omega) d2.1 d2.2.1 (by omega)
        obtain ⟨c1, m1, q1, q2, q3, q4, q5⟩ := p_flash hf (by omega) hl K1
        have c6 : c1.1 4 l 6 ≠ 0 := by rw [(q4 4 l 6 rfl).1, rI_o (by omega), rI_o (by omega)]; exact z6
        have c5 : c1.1 4 l 5 ≠ 0 := by rw [(q4 4 l 5 rfl).1, rI_o (by omega), rI_o (by omega)]; exact z5
        obtain ⟨c', m', p1, p2, p3, p4, p5, p6⟩ := p_k56 hf (by omega) hl c6 c5 q3 (r_d_so (so_mono w_j1 q4) (so_mono w_j2 q5) (K2 (by omega)))
        refine ⟨f, c', m', hf, fun k2 => ?_, ?_, up (by omega) p3, p4, so_tr K3 (so_tr (so_mono w_h3 q4) p5), so_tr K4 (so_tr (so_mono w_h4 q5) p6)⟩
        · unfold F11_watchLines_2b F4_lookAtLoop
          rw [if_neg (by omega), g_t hl, if_neg z6, if_neg z5]
          simp only [lt_d]
          rw [if_neg z8, Option.bind_some, if_neg (by simp), if_neg (by simp), if_pos rfl]
          dsimp only
          rw [q1, Option.bind_some, p1, wl]
        · unfold F12_looks
          simp only [g_t hl, lt_d]
          rw [if_neg (by omega), if_neg (by omega), if_neg (by omega), q2, Option.bind_some, p2]
theorem p_watch : ∀ (d : Nat) (fu fu' : Nat) (l h B : Int) (f : Int → Int) (c m : JM), f_ok f → relN f N B (h, aL) c m → r_d c m → 0 ≤ l → l + d = 16 → d < fu → d < fu' → h + d ≤ 72 → B + 12 * d + 100 < 2000000000 →
    ∃ f' c' m', f_ok f' ∧ F11_watchLines_2 fu l c = some c' ∧ (∀ (k32 : Int → Int → JM → Option (Int × JM)) (l1 l2 : Int), F12_tick_49 k32 fu' l1 l2 l m = F12_tick_49b k32 (fun _ _ _ _ => none) l1 l2 16 m') ∧ relN f' N (B + 12 * d) (h + d, aL) c' m' ∧ r_d c' m' ∧ so w_W c c' ∧ so w_V m m'
  | 0, fu + 1, fu' + 1, l, h, B, f, c, m, hf, R, D, l0, e, _, _, _, _ => by
    refine ⟨f, c, m, hf, ?_, fun k32 l1 l2 => ?_, by simpa using R, D, so_rfl c, so_rfl m⟩
    · show F11_watchLines_2b _ l c = _
      unfold F11_watchLines_2b
      rw [if_pos (by omega)]
    · show F12_tick_49b k32 (F12_tick_49 k32 fu') l1 l2 l m = _
      rw [show l = 16 by omega]
      unfold F12_tick_49b
      rw [if_pos (by decide), if_pos (by decide)]
  | d + 1, fu + 1, fu' + 1, l, h, B, f, c, m, hf, R, D, l0, e, a, b, hh, hB => by
    obtain ⟨f1, c1, m1, y0, y1, y2, y3, y4, y5, y6⟩ := p_look (l := l) hf (by omega) (by omega) (by omega) R D
    obtain ⟨f', c', m', x0, x1, x2, x3, x4, x5, x6⟩ := p_watch d fu fu' (l + 1) (h + 1) (B + 12) f1 c1 m1 y0 y3 y4 (by omega) (by omega) (by omega) (by omega) (by omega) (by omega)
    refine ⟨f', c', m', x0, ?_, fun k32 l1 l2 => ?_, ?_, x4, so_tr y5 x5, so_tr y6 x6⟩
    · show F11_watchLines_2b (F11_watchLines_2 fu) l c = _
      rw [y1, x1]
    · show F12_tick_49b k32 (F12_tick_49 k32 fu') l1 l2 l m = _
      rw [← x2]
      unfold F12_tick_49b
      rw [if_neg (by omega), y2, Option.bind_some, w32_of (by omega) (by omega)]
    · have e1 : B + 12 + 12 * (d : Int) = B + 12 * ((d + 1 : Nat) : Int) := by omega
      have e2 : h + 1 + (d : Int) = h + ((d + 1 : Nat) : Int) := by omega
      rw [e1, e2] at x3
      exact x3
  | _, 0, _, _, _, _, _, _, _, _, _, _, _, _, q, _, _, _ => by omega
  | _, _ + 1, 0, _, _, _, _, _, _, _, _, _, _, _, _, q, _, _ => by omega
end SJ
