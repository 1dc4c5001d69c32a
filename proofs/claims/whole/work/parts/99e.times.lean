/-! ===== times ===== -/
theorem jm_ext {a b : JM} (h1 : ∀ k n j, a.1 k n j = b.1 k n j) (h2 : ∀ k n j, a.2.1 k n j = b.2.1 k n j) (h3 : ∀ k n j, a.2.2 k n j = b.2.2 k n j) : a = b := by
  refine Prod.ext ?_ (Prod.ext ?_ ?_)
  · funext k n j; exact h1 k n j
  · funext k n j; exact h2 k n j
  · funext k n j; exact h3 k n j
section RV
variable {f : Int → Int} {N z1 z2 X : Int} {sec : Option Int} {Y zd : Int} {c m c' m' : JM} {B B' : Int} {H : HT}
theorem f_rnm (c : JM) (id l : Int) : ∃ c', F11_ringNoMore (some id) (some l) c = some c' ∧ c'.2.1 = c.2.1 ∧ (∀ k n j, c'.2.2 k n j = if k = 4 ∧ n = l ∧ (j = 12 ∨ j = 13) ∧ c.2.2 k n j = some id then none else c.2.2 k n j) ∧ (∀ k n j, c'.1 k n j = if k = 4 ∧ n = l ∧ j = 16 ∧ c.2.2 4 l 13 = some id then c.1 11 0 10 else c.1 k n j) := by
  by_cases a : c.2.2 4 l 13 = some id <;> by_cases b : c.2.2 4 l 12 = some id
  all_goals
    refine ⟨_, by (conv => lhs; simp [F11_ringNoMore, F11_ringNoMore_21, lt_, a, b, rI_I, rI_R, rR_I, rR_R]), ?_, fun k n j => ?_, fun k n j => ?_⟩
    · rfl
    all_goals
      try simp only [rI_I, rI_R, rR_I, rR_R]
      grind
/-- the reference stops the ringing of line l -/
theorem m_rnm (m : JM) (s l : Int) (hl : 0 ≤ l ∧ l < 16) (hr : m.1 121 0 l = s → m.1 112 0 l = 0) (kp : JM → Option JM) : ∃ m', (if m.1 121 0 l = s then (F12_unring l m).bind (fun h11 => g_ ((0 : Int) ≤ l ∧ l < (16 : Int)) (if h11.1 120 0 l = s then g_ ((0 : Int) ≤ l ∧ l < (16 : Int)) (lt_ (sI h11 120 0 l (-1)) (fun h3 => kp h3)) else kp h11)) else g_ ((0 : Int) ≤ l ∧ l < (16 : Int)) (if m.1 120 0 l = s then g_ ((0 : Int) ≤ l ∧ l < (16 : Int)) (lt_ (sI m 120 0 l (-1)) (fun h3 => kp h3)) else kp m)) = kp m' ∧ m'.2 = m.2 ∧ (∀ k n j, m'.1 k n j = if (k = 120 ∨ k = 121) ∧ n = 0 ∧ j = l ∧ m.1 k 0 l = s then -1 else if k = 125 ∧ n = 0 ∧ j = l ∧ m.1 121 0 l = s then m.1 12 0 2 else m.1 k n j) := by
  by_cases a : m.1 121 0 l = s <;> by_cases b : m.1 120 0 l = s
  · have h0 := hr a
    refine ⟨sI (sI (sI m 121 0 l (-1)) 125 0 l (m.1 12 0 2)) 120 0 l (-1), ?_, rfl, fun k n j => ?_⟩
    · unfold F12_unring
      rw [if_pos a, g_t hl, lt_d, g_t hl, if_pos (by simp [rI_I, h0]), g_t hl, lt_d, Option.bind_some, g_t hl, if_pos (by simp [rI_I, b]), g_t hl, lt_d]
      simp [rI_I]
    · simp only [rI_I]; grind
  · have h0 := hr a
    refine ⟨sI (sI m 121 0 l (-1)) 125 0 l (m.1 12 0 2), ?_, rfl, fun k n j => ?_⟩
    · unfold F12_unring
      rw [if_pos a, g_t hl, lt_d, g_t hl, if_pos (by simp [rI_I, h0]), g_t hl, lt_d, Option.bind_some, g_t hl, if_neg (by simp [rI_I, b])]
      simp [rI_I]
    · simp only [rI_I]; grind
  · refine ⟨sI m 120 0 l (-1), ?_, rfl, fun k n j => ?_⟩
    · rw [if_neg a, g_t hl, if_pos b, g_t hl, lt_d]
    · simp only [rI_I]; grind
  · refine ⟨m, ?_, rfl, fun k n j => ?_⟩
    · rw [if_neg a, g_t hl, if_neg b]
    · grind

theorem t_unr (hf : f_ok f) {id l : Int} (hv : lv c id) (hs : c.1 0 id 9 = 2) (hl : c.2.2 0 id 3 = some l ∧ 0 ≤ l ∧ l < 16) (HH : r_h f N (-1) (-1) (-1) none Y id c m)
    (cI0 : ∀ n j, c'.1 0 n j = c.1 0 n j) (cI4 : ∀ n, c'.1 4 n 6 = c.1 4 n 6) (cI6 : ∀ n j, c'.1 6 n j = c.1 6 n j) (cI8 : ∀ n, c'.1 8 n 2 = c.1 8 n 2) (cL : ∀ n j, c'.2.1 0 n j = c.2.1 0 n j)
    (cR : ∀ k n j, c'.2.2 k n j = if k = 0 ∧ n = id ∧ j = 3 then none else if k = 4 ∧ n = l ∧ (j = 12 ∨ j = 13) ∧ c.2.2 k n j = some id then none else c.2.2 k n j)
    (mI : ∀ k j, m'.1 k 0 j = if k = 137 ∧ j = f id then -1 else if (k = 120 ∨ k = 121) ∧ j = l ∧ m.1 k 0 l = f id then -1 else if k = 125 ∧ j = l ∧ m.1 121 0 l = f id then m.1 12 0 2 else m.1 k 0 j) :
    r_h f N (-1) (-1) (-1) none Y id c' m' := by
  have inj := hf.1
  have hlv : ∀ i, lv c' i ↔ lv c i := fun i => by unfold lv; rw [cI0]
  obtain ⟨h_st, h_sx, h_hm, h_sa, h_sb, h_gp, h_ky, h_k1, h_fw, h_fr, h_ce, h_an, h_zn, h_rw, h_la, h_lo, h_lr, h_wa, h_wo, h_wx, h_wr, h_w3, h_w4, h_w8, h_w9, h_w5, h_t1, h_t2, h_t3, h_t6, h_t9, h_ty, h_xx, h_zr⟩ := HH
  have b_sb := h_sb id hv
  refine ⟨?_, ?_, ?_, ?_, ?_, ?_, ?_, ?_, ?_, ?_, ?_, ?_, ?_, ?_, ?_, ?_, ?_, ?_, ?_, ?_, ?_, ?_, ?_, ?_, ?_, ?_, ?_, ?_, ?_, ?_, ?_, ?_, ?_, ?_⟩
  · -- st
    simpa [d_st, hlv, cI0, cI4, cI6, cI8, cL, cR, mI] using h_st
  · -- sx
    simpa [d_sx, hlv, cI0, cI4, cI6, cI8, cL, cR, mI] using h_sx
  · -- hm
    simpa [d_hm, hlv, cI0, cI4, cI6, cI8, cL, cR, mI] using h_hm
  · -- sa
    simpa [d_sa, hlv, cI0, cI4, cI6, cI8, cL, cR, mI] using h_sa
  · -- sb
    simp only [d_sb, hlv] at h_sb ⊢
    intro i a
    by_cases z : i = id
    · subst z
      have b4 : c.2.2 0 i 4 = none ∧ c.1 0 i 6 = -1 := by
        rcases h_sb i a with ⟨_, q, _⟩ | ⟨_, _, q, q1, q2, _⟩ | ⟨_, _, q, _⟩ | ⟨_, _, q, _⟩ | ⟨_, _, q, _⟩
        · rw [hl.1] at q; cases q
        · exact ⟨q1, q2⟩
        · rw [hl.1] at q; cases q
        · rw [hl.1] at q; cases q
        · rw [hl.1] at q; cases q
      exact Or.inl ⟨by rw [mI]; simp, by rw [cR]; simp, by rw [cR]; simp [b4.1], by rw [cI0]; exact b4.2, by rw [cI0]; omega⟩
    · have hne : f i ≠ f id := fun q => z (inj _ _ q)
      simpa [cR, mI, cI0, z, hne] using h_sb i a
  · -- gp
    simpa [d_gp, hlv, cI0, cI4, cI6, cI8, cL, cR, mI] using h_gp
  · -- ky
    simp only [d_ky, hlv] at h_ky ⊢
    intro i a b
    obtain ⟨K, k1, k2, k3, k4⟩ := h_ky i a b
    exact ⟨K, k1, by rw [cL]; exact k2, by rw [mI]; simpa using k3, fun j hj => by have := k4 j hj; simp only [mI]; simpa using this⟩
  · -- k1
    simpa [d_k1, hlv, cI0, cI4, cI6, cI8, cL, cR, mI] using h_k1
  · -- fw
    simpa [d_fw, hlv, cI0, cI4, cI6, cI8, cL, cR, mI] using h_fw
  · -- fr
    simpa [d_fr, hlv, cI0, cI4, cI6, cI8, cL, cR, mI] using h_fr
  · -- ce
    simpa [d_ce, hlv, cI0, cI4, cI6, cI8, cL, cR, mI] using h_ce
  · -- an
    simpa [d_an, hlv, cI0, cI4, cI6, cI8, cL, cR, mI] using h_an
  · -- zn
    simpa [d_zn, hlv, cI0, cI4, cI6, cI8, cL, cR, mI] using h_zn
  · -- rw
    simpa [d_rw, hlv, cI0, cI4, cI6, cI8, cL, cR, mI] using h_rw
  · -- la
    simpa [d_la, hlv, cI0, cI4, cI6, cI8, cL, cR, mI] using h_la
  · -- lo
    intro x a b d
    have e := h_lo x a b d
    have e2 := rf_eq hf (c.2.2 4 x 12) id
    rw [← e] at e2
    rw [mI, cR]
    by_cases z : x = l
    · subst z
      by_cases w : c.2.2 4 x 12 = some id
      · have h2 := e2.2 w
        simp [w, h2, rf]
      · have h2 : ¬ m.1 120 0 x = f id := fun q => w (e2.1 q)
        simp [w, h2]
        exact e
    · simp [z]
      exact e
  · -- lr
    intro x a b
    have e := h_lr x a b
    have e2 := rf_eq hf (c.2.2 4 x 13) id
    rw [← e] at e2
    rw [mI, cR]
    by_cases z : x = l
    · subst z
      by_cases w : c.2.2 4 x 13 = some id
      · have h2 := e2.2 w
        simp [w, h2, rf]
      · have h2 : ¬ m.1 121 0 x = f id := fun q => w (e2.1 q)
        simp [w, h2]
        exact e
    · simp [z]
      exact e
  · -- wa
    simp only [d_wa, hlv, cI0, cI4, cI6, cI8, cL, cR, mI] at h_wa ⊢; grind [rf, lv]
  · -- wo
    simp only [d_wo, hlv, cI0, cI4, cI6, cI8, cL, cR, mI] at h_wo ⊢; grind [rf, lv]
  · -- wx
    simp only [d_wx, hlv, cI0, cI4, cI6, cI8, cL, cR, mI] at h_wx ⊢; grind [rf, lv]
  · -- wr
    simp only [d_wr, hlv, cI0, cI4, cI6, cI8, cL, cR, mI] at h_wr ⊢; grind [rf, lv]
  · -- w3
    simp only [d_w3, hlv, cI0, cI4, cI6, cI8, cL, cR, mI] at h_w3 ⊢; grind [rf, lv]
  · -- w4
    intro i x a b d e
    have e' : c.2.2 0 i 1 = some x := by rw [cR] at e; simpa using e
    rcases h_w4 i x ((hlv i).1 a) b d e' with q | q
    · left; rw [cR]; simpa using q
    · right
      rw [cR, if_neg (by omega), if_neg]
      · exact q
      · intro w
        have w1 := w.2.1
        have w2 := w.2.2.2
        rw [q] at w2
        cases w2
        rw [w1] at e'
        exact h_w9 id l hv e' hl.1
  · -- w8
    simpa [d_w8, hlv, cI0, cI4, cI6, cI8, cL, cR, mI] using h_w8
  · -- w9
    simp only [d_w9, hlv, cI0, cI4, cI6, cI8, cL, cR, mI] at h_w9 ⊢; grind [rf, lv]
  · -- w5
    simp only [d_w5, hlv, cI0, cI4, cI6, cI8, cL, cR, mI] at h_w5 ⊢; grind [rf, lv]
  · -- t1
    simpa [d_t1, hlv, cI0, cI4, cI6, cI8, cL, cR, mI] using h_t1
  · -- t2
    simpa [d_t2, hlv, cI0, cI4, cI6, cI8, cL, cR, mI] using h_t2
  · -- t3
    simp only [d_t3, hlv, cI0, cI4, cI6, cI8, cL, cR, mI] at h_t3 ⊢; grind [rf, lv]
  · -- t6
    simp only [d_t6, hlv, cI0, cI4, cI6, cI8, cL, cR, mI] at h_t6 ⊢; grind [rf, lv]
  · -- t9
    simp only [d_t9, hlv, cI0, cI4, cI6, cI8, cL, cR, mI] at h_t9 ⊢; grind [rf, lv]
  · -- ty
    simpa [d_ty, hlv, cI0, cI4, cI6, cI8, cL, cR, mI] using h_ty
  · -- xx
    intro z; omega
  · -- zr
    simpa [d_zr, hlv, cI0, cI4, cI6, cI8, cL, cR, mI] using h_zr

theorem t_back (hf : f_ok f) {id l g nw tn : Int} (hv : lv c id) (hs : c.1 0 id 9 = 2) (hl : c.2.2 0 id 3 = some l ∧ 0 ≤ l ∧ l < 16 ∧ c.2.2 4 l 13 = some id) (hg : 0 ≤ g ∧ g ≤ 2 ∧ c.2.2 0 id 5 = some (3 * m.1 135 0 (f id) + g)) (HH : r_h f N (-1) (-1) (-1) none Y (-1) c m) :
    r_h f N (-1) (-1) (-1) none Y (-1) (sI (sI (sI (sR (sR c 4 l 13 none) 0 id 3 none) 0 id 9 4) 0 id 10 nw) 0 id 14 tn) (sI (sI (sI (sI (sI m 121 0 l (-1)) 137 0 (f id) (300 + g)) 138 0 (f id) (-1)) 133 0 (f id) 4) 145 0 (f id) nw) := by
  have inj := hf.1
  have hlv : ∀ i, lv (sI (sI (sI (sR (sR c 4 l 13 none) 0 id 3 none) 0 id 9 4) 0 id 10 nw) 0 id 14 tn) i ↔ lv c i := fun i => by unfold lv; simp only [rI_I, rI_L, rI_R, rL_I, rL_L, rL_R, rR_I, rR_L, rR_R]; grind [lv]
  obtain ⟨h_st, h_sx, h_hm, h_sa, h_sb, h_gp, h_ky, h_k1, h_fw, h_fr, h_ce, h_an, h_zn, h_rw, h_la, h_lo, h_lr, h_wa, h_wo, h_wx, h_wr, h_w3, h_w4, h_w8, h_w9, h_w5, h_t1, h_t2, h_t3, h_t6, h_t9, h_ty, h_xx, h_zr⟩ := HH
  have b_st := h_st id hv.1 hv.2.1
  have b_hm := h_hm id hv
  have b_sa := h_sa id hv
  have b_sb := h_sb id hv
  have b_an := h_an id hv
  have b_gp := h_gp id hv
  have b_k1 := h_k1 id hv
  refine ⟨?_, ?_, ?_, ?_, ?_, ?_, ?_, ?_, ?_, ?_, ?_, ?_, ?_, ?_, ?_, ?_, ?_, ?_, ?_, ?_, ?_, ?_, ?_, ?_, ?_, ?_, ?_, ?_, ?_, ?_, ?_, ?_, ?_, ?_⟩
  · -- st
    simp only [d_st, hlv, rI_I, rI_L, rI_R, rL_I, rL_L, rL_R, rR_I, rR_L, rR_R] at h_st ⊢; grind [rf, lv]
  · -- sx
    simp only [d_sx, hlv, rI_I, rI_L, rI_R, rL_I, rL_L, rL_R, rR_I, rR_L, rR_R] at h_sx ⊢; intro i a b; have : f i ≠ f id := fun z => by have := inj _ _ z; have := hv.2.1; omega
    simp [this]; exact h_sx i a b
  · -- hm
    simpa [d_hm, hlv, rI_I, rI_L, rI_R, rL_I, rL_L, rL_R, rR_I, rR_L, rR_R] using h_hm
  · -- sa
    simpa [d_sa, hlv, rI_I, rI_L, rI_R, rL_I, rL_L, rL_R, rR_I, rR_L, rR_R] using h_sa
  · -- sb
    simp only [d_sb, hlv, rI_I, rI_L, rI_R, rL_I, rL_L, rL_R, rR_I, rR_L, rR_R] at h_sb ⊢
    intro i a
    by_cases z : i = id
    · subst z
      refine Or.inr (Or.inr (Or.inr (Or.inr ?_)))
      have b4 : c.2.2 0 i 4 = none ∧ c.1 0 i 6 = -1 := by
        rcases h_sb i a with ⟨_, q, _⟩ | ⟨_, _, q, q1, q2, _⟩ | ⟨_, _, q, _⟩ | ⟨_, _, q, _⟩ | ⟨_, _, q, _⟩
        · rw [hl.1] at q; cases q
        · exact ⟨q1, q2⟩
        · rw [hl.1] at q; cases q
        · rw [hl.1] at q; cases q
        · rw [hl.1] at q; cases q
      simp [b4.1, b4.2, hg.2.2]; omega
    · have hne : f i ≠ f id := fun q => z (inj _ _ q)
      simpa [z, hne] using h_sb i a
  · -- gp
    simp only [d_gp, hlv, rI_I, rI_L, rI_R, rL_I, rL_L, rL_R, rR_I, rR_L, rR_R] at h_gp ⊢; grind [rf, lv]
  · -- ky
    simpa [d_ky, hlv, rI_I, rI_L, rI_R, rL_I, rL_L, rL_R, rR_I, rR_L, rR_R] using h_ky
  · -- k1
    simp only [d_k1, hlv, rI_I, rI_L, rI_R, rL_I, rL_L, rL_R, rR_I, rR_L, rR_R] at h_k1 ⊢; grind [rf, lv]
  · -- fw
    simpa [d_fw, hlv, rI_I, rI_L, rI_R, rL_I, rL_L, rL_R, rR_I, rR_L, rR_R] using h_fw
  · -- fr
    simp only [d_fr, hlv, rI_I, rI_L, rI_R, rL_I, rL_L, rL_R, rR_I, rR_L, rR_R] at h_fr ⊢; grind [rf, lv]
  · -- ce
    simpa [d_ce, hlv, rI_I, rI_L, rI_R, rL_I, rL_L, rL_R, rR_I, rR_L, rR_R] using h_ce
  · -- an
    simp only [d_an, hlv, rI_I, rI_L, rI_R, rL_I, rL_L, rL_R, rR_I, rR_L, rR_R] at h_an ⊢; grind [rf, lv]
  · -- zn
    simp only [d_zn, hlv, rI_I, rI_L, rI_R, rL_I, rL_L, rL_R, rR_I, rR_L, rR_R] at h_zn ⊢; grind [rf, lv]
  · -- rw
    simp only [d_rw, hlv, rI_I, rI_L, rI_R, rL_I, rL_L, rL_R, rR_I, rR_L, rR_R] at h_rw ⊢; grind [rf, lv]
  · -- la
    simpa [d_la, hlv, rI_I, rI_L, rI_R, rL_I, rL_L, rL_R, rR_I, rR_L, rR_R] using h_la
  · -- lo
    simpa [d_lo, hlv, rI_I, rI_L, rI_R, rL_I, rL_L, rL_R, rR_I, rR_L, rR_R] using h_lo
  · -- lr
    simp only [d_lr, hlv, rI_I, rI_L, rI_R, rL_I, rL_L, rL_R, rR_I, rR_L, rR_R] at h_lr ⊢; grind [rf, lv]
  · -- wa
    simp only [d_wa, hlv, rI_I, rI_L, rI_R, rL_I, rL_L, rL_R, rR_I, rR_L, rR_R] at h_wa ⊢; grind [rf, lv]
  · -- wo
    simp only [d_wo, hlv, rI_I, rI_L, rI_R, rL_I, rL_L, rL_R, rR_I, rR_L, rR_R] at h_wo ⊢
    intro x i q
    have o := h_wo x i (by simpa using q)
    by_cases z : i = id
    · exfalso
      rw [z] at o q
      rcases o.2.2.2 with ⟨_, s⟩ | ⟨s, _⟩
      · omega
      · rw [hl.1] at s
        cases s
        have w1 := (h_wr l id hl.2.2.2).2.2.2.2.2
        have w2 := (h_w3 l w1).2
        simp [w2] at q
    · exact ⟨o.1, o.2.1, o.2.2.1, by simpa [z] using o.2.2.2⟩
  · -- wx
    simp only [d_wx, hlv, rI_I, rI_L, rI_R, rL_I, rL_L, rL_R, rR_I, rR_L, rR_R] at h_wx ⊢; grind [rf, lv]
  · -- wr
    simp only [d_wr, hlv, rI_I, rI_L, rI_R, rL_I, rL_L, rL_R, rR_I, rR_L, rR_R] at h_wr ⊢; grind [rf, lv]
  · -- w3
    simpa [d_w3, hlv, rI_I, rI_L, rI_R, rL_I, rL_L, rL_R, rR_I, rR_L, rR_R] using h_w3
  · -- w4
    simpa [d_w4, hlv, rI_I, rI_L, rI_R, rL_I, rL_L, rL_R, rR_I, rR_L, rR_R] using h_w4
  · -- w8
    simpa [d_w8, hlv, rI_I, rI_L, rI_R, rL_I, rL_L, rL_R, rR_I, rR_L, rR_R] using h_w8
  · -- w9
    simp only [d_w9, hlv, rI_I, rI_L, rI_R, rL_I, rL_L, rL_R, rR_I, rR_L, rR_R] at h_w9 ⊢; grind [rf, lv]
  · -- w5
    simp only [d_w5, hlv, rI_I, rI_L, rI_R, rL_I, rL_L, rL_R, rR_I, rR_L, rR_R] at h_w5 ⊢; grind [rf, lv]
  · -- t1
    simpa [d_t1, hlv, rI_I, rI_L, rI_R, rL_I, rL_L, rL_R, rR_I, rR_L, rR_R] using h_t1
  · -- t2
    simpa [d_t2, hlv, rI_I, rI_L, rI_R, rL_I, rL_L, rL_R, rR_I, rR_L, rR_R] using h_t2
  · -- t3
    simp only [d_t3, hlv, rI_I, rI_L, rI_R, rL_I, rL_L, rL_R, rR_I, rR_L, rR_R] at h_t3 ⊢; grind [rf, lv]
  · -- t6
    simp only [d_t6, hlv, rI_I, rI_L, rI_R, rL_I, rL_L, rL_R, rR_I, rR_L, rR_R] at h_t6 ⊢; grind [rf, lv]
  · -- t9
    simpa [d_t9, hlv, rI_I, rI_L, rI_R, rL_I, rL_L, rL_R, rR_I, rR_L, rR_R] using h_t9
  · -- ty
    simpa [d_ty, hlv, rI_I, rI_L, rI_R, rL_I, rL_L, rL_R, rR_I, rR_L, rR_R] using h_ty
  · -- xx
    intro z; omega
  · -- zr
    simpa [d_zr, hlv, rI_I, rI_L, rI_R, rL_I, rL_L, rL_R, rR_I, rR_L, rR_R] using h_zr

theorem m_sh63 {s q : Int} (hs : 0 ≤ s ∧ s < 80) (hq : 0 ≤ q ∧ q < 6) : ∀ (i : Nat) (fu : Nat) (h : JM), i ≤ 79 → i < fu →
    ∃ h' : JM, F12_ringsLong_63 fu s q (i : Int) h = F12_ringsLong_63b (fun _ _ _ _ => none) s q 0 h' ∧ h'.2 = h.2 ∧ (∀ k n j, h'.1 k n j = if k = 152 ∧ n = 0 ∧ 80 * q + 1 ≤ j ∧ j ≤ 80 * q + i then h.1 152 0 (j - 1) else h.1 k n j)
  | _, 0, _, _, h => by omega
  | 0, fu + 1, h, _, _ => by
    refine ⟨h, ?_, rfl, fun k n j => by rw [if_neg (by omega)]⟩
    show F12_ringsLong_63b (F12_ringsLong_63 fu) s q ((0 : Nat) : Int) h = _
    unfold F12_ringsLong_63b
    rw [if_pos (by simp), if_pos (by simp)]
  | i + 1, fu + 1, h, h1, h2 => by
    have w1 : w32 (80 * q) = 80 * q := w32_of (by omega) (by omega)
    have w2 : w32 (80 * q + ((i + 1 : Nat) : Int)) = 80 * q + ((i + 1 : Nat) : Int) := w32_of (by omega) (by omega)
    have w3 : w32 (80 * q + ((i + 1 : Nat) : Int) - 1) = 80 * q + (i : Int) := by rw [w32_of (by omega) (by omega)]; omega
    have w4 : w32 (((i + 1 : Nat) : Int) + -1) = (i : Int) := by rw [w32_of (by omega) (by omega)]; omega
    obtain ⟨h', y1, y2, y3⟩ := m_sh63 hs hq i fu (sI h 152 0 (80 * q + ((i + 1 : Nat) : Int)) (h.1 152 0 (80 * q + (i : Int)))) (by omega) (by omega)
    refine ⟨h', ?_, y2, fun k n j => ?_⟩
    · show F12_ringsLong_63b (F12_ringsLong_63 fu) s q ((i + 1 : Nat) : Int) h = _
      rw [← y1]
      conv => lhs; unfold F12_ringsLong_63b
      rw [if_neg (by omega), w1, w2, w3, w4, g_t (by omega), g_t (by omega), lt_d]
    · rw [y3, rI_I, rI_I]
      by_cases z : k = 152 ∧ n = 0
      · obtain ⟨rfl, rfl⟩ := z
        by_cases z2 : j = 80 * q + ((i + 1 : Nat) : Int)
        · subst z2
          rw [if_neg (by omega), if_pos ⟨rfl, rfl, rfl⟩, if_pos (by omega)]
          exact cgI _ _ _ (by omega)
        · by_cases z3 : 80 * q + 1 ≤ j ∧ j ≤ 80 * q + (i : Int)
          · rw [if_pos (by omega), if_neg (by omega), if_pos (by omega)]
          · rw [if_neg (by omega), if_neg (by omega), if_neg (by omega)]
      · rw [if_neg (by omega), if_neg (by omega), if_neg (by omega)]
/-- a group's member doesn't answer: the call waits ahead of all -/
theorem p_back (hf : f_ok f) (hB : B + 10 < 2000000000) {id l g : Int} (hv : lv c id) (hs : c.1 0 id 9 = 2) (hl : c.2.2 0 id 3 = some l) (h8 : m.1 138 0 (f id) = g) (hg0 : 0 ≤ g ∧ g ≤ 2) (R : relN f N B H c m) :
    ∃ c' m', F11_checkRinging (some id) (some l) 300 c = some c' ∧ F12_ringsLong (f id) 300 m = some m' ∧ relN f N (B + 1) H c' m' ∧ so w_C c c' ∧ so w_M m m' := by
  have hfr := hf.2.2.1 id hv.1 (by have := hv.2.1; omega)
  have b_hm := R.2.2.1.2.2.1 id hv
  have b_st := R.2.2.1.1 id hv.1 hv.2.1
  have b_sb := R.2.2.1.2.2.2.2.1 id hv
  have b_gp := R.2.2.1.2.2.2.2.2.1 id hv
  have b_w5 := R.2.2.1.2.2.2.2.2.2.2.2.2.2.2.2.2.2.2.2.2.2.2.2.2.2.2.2.2.1 id l hv (by have := hv.1; omega) (by have := hv.1; omega) hs
  have b_wr := R.2.2.1.2.2.2.2.2.2.2.2.2.2.2.2.2.2.2.2.2.2.2.2.1 l id
  have b_w3 := R.2.2.1.2.2.2.2.2.2.2.2.2.2.2.2.2.2.2.2.2.2.2.2.2.1 l
  have hnow : m.1 12 0 2 = c.1 11 0 10 := R.1.2.2.2.2.2.2.2.1
  obtain ⟨l1, l2, l3⟩ : m.1 137 0 (f id) = l ∧ 0 ≤ l ∧ l < 16 := by
    rcases b_sb with ⟨_, a, _⟩ | ⟨a1, a2, a, _⟩ | ⟨_, _, a, _⟩ | ⟨_, _, a, _⟩ | ⟨_, _, a, _⟩
    · rw [hl] at a; cases a
    · rw [hl] at a; cases a; omega
    · rw [hl] at a; cases a
    · rw [hl] at a; cases a
    · rw [hl] at a; cases a
  have hg : c.2.2 0 id 5 = some (3 * m.1 135 0 (f id) + g) := by
    rcases b_gp with ⟨a, _⟩ | ⟨_, _, _, a⟩
    · omega
    · rw [h8] at a; exact a
  have hrb := b_w5 (by rw [hg]; simp) hl
  have hw3 := b_wr hrb
  have hno := b_w3 hw3.2.2.2.2.2
  generalize he : m.1 135 0 (f id) = e at *
  generalize hq : 3 * e + g = q at *
  have q06 : 0 ≤ q ∧ q < 6 := by omega
  have hM := r_q_many hf R.2.2.2.2.1 q06.1 q06.2
  obtain ⟨q1, q2, q3⟩ := R.2.2.2.2.1.1 q
  have h60 := (R.2.2.2.2.1.2.2.1 q q06.1 q06.2).1
  obtain ⟨b1, b2, b3, b4, b5, b6⟩ := R.2.2.2.2.1.2.2.2.2.2 q q06.1 q06.2
  have m112 := (R.2.1 l).1
  have m121 : m.1 121 0 l = f id := by
    have := R.2.2.1.2.2.2.2.2.2.2.2.2.2.2.2.2.2.2.2.1 l l2 l3
    rw [this, hrb]; rfl
  generalize hnw : c.1 11 0 10 = nw at *
  -- the class
  have x1 : w32 (c.1 2 q 4 - 1) = c.1 2 q 4 - 1 := w32_of (by omega) (by omega)
  have x2 : w32 (c.1 2 q 3 + 1) = c.1 2 q 3 + 1 := w32_of (by omega) (by omega)
  have ec : F11_checkRinging (some id) (some l) 300 c = some (sI (sI (sI (sI (sI (sR (sI (sI (sR c 4 l 13 none) 4 l 16 nw) 4 l 7 1) 0 id 3 none) 0 id 9 4) 0 id 10 nw) 2 q 4 (c.1 2 q 4 - 1)) 0 id 14 (c.1 2 q 4 - 1)) 2 q 3 (c.1 2 q 3 + 1)) := by
    unfold F11_checkRinging F11_ringNoMore F11_ringNoMore_21 F11_enter F2_letWait F2_letWait_43
    rw [Option.bind_some, if_neg (by rw [hg]; simp), if_pos rfl, Option.bind_some, if_pos hrb, lt_d, lt_d, Option.bind_some]
    rw [if_neg (by simp [rI_R, rR_R, hno.2])]
    simp only [Option.bind_some, lt_d]
    have : (sI (sI (sR (sI (sI (sR c 4 l 13 none) 4 l 16 nw) 4 l 7 1) 0 id 3 none) 0 id 9 4) 0 id 10 nw).2.2 0 id 5 = some q := by simp [rI_R, rR_R, hg]
    simp [rI_I, rI_R, rR_I, rR_R, hg, hnw, x1, x2]
  -- the reference
  have w1 : w32 (3 * e) = 3 * e := w32_of (by omega) (by omega)
  have w2 : w32 (3 * e + g) = q := by rw [hq]; exact w32_of (by omega) (by omega)
  have w3 : w32 (80 * q) = 80 * q := w32_of (by omega) (by omega)
  have w4 : w32 (300 + g) = 300 + g := w32_of (by omega) (by omega)
  have w5 : w32 (m.1 153 0 q + 1) = m.1 153 0 q + 1 := w32_of (by omega) (by omega)
  obtain ⟨M0, hM0⟩ := Int.eq_ofNat_of_zero_le h60
  obtain ⟨h', y1, y2, y3⟩ := m_sh63 (s := f id) (q := q) hfr q06 M0 j_fu (sI (sI (sI m 121 0 l (-1)) 125 0 l nw) 124 0 l 1) (by omega) (by unfold j_fu; omega)
  have em : F12_ringsLong (f id) 300 m = some (sI (sI (sI (sI (sI (sI h' 152 0 (80 * q) (f id)) 153 0 q (m.1 153 0 q + 1)) 137 0 (f id) (300 + g)) 138 0 (f id) (-1)) 133 0 (f id) 4) 145 0 (f id) nw) := by
    have z : ∀ k n j, k ≠ 152 → k ≠ 121 → k ≠ 125 → k ≠ 124 → h'.1 k n j = m.1 k n j := fun k n j a b d e => by
      rw [y3, if_neg (by omega), rI_o (by omega), rI_o (by omega), rI_o (by omega)]
    unfold F12_ringsLong F12_unring
    rw [g_t hfr, lt_d, g_t hfr, if_neg (by omega), if_pos rfl, l1, g_t ⟨l2, l3⟩, lt_d, g_t ⟨l2, l3⟩, if_pos (by simp [rI_I, m112, hw3]), g_t ⟨l2, l3⟩, lt_d, Option.bind_some, g_t ⟨l2, l3⟩, lt_d, g_t hfr, g_t hfr, lt_d]
    have r1 : (sI m 121 0 l (-1)).1 12 0 2 = nw := by simp [rI_I, hnow]
    rw [r1]
    have r2 : (sI (sI (sI m 121 0 l (-1)) 125 0 l nw) 124 0 l 1).1 135 0 (f id) = e := by simp [rI_I, he]
    have r3 : (sI (sI (sI m 121 0 l (-1)) 125 0 l nw) 124 0 l 1).1 138 0 (f id) = g := by simp [rI_I, h8]
    have r4 : (sI (sI (sI m 121 0 l (-1)) 125 0 l nw) 124 0 l 1).1 153 0 q = (M0 : Int) := by simp [rI_I]; omega
    rw [r2, r3, w1, w2, g_t q06, lt_d, r4, y1]
    unfold F12_ringsLong_63b F12_becomes
    rw [if_pos (by simp), w3, g_t (by omega), lt_d, g_t q06, g_t q06, lt_d, g_t hfr, g_t hfr, lt_d, g_t hfr, lt_d, g_t hfr, lt_d, g_t hfr, lt_d, Option.bind_some]
    have r5 : (sI h' 152 0 (80 * q) (f id)).1 153 0 q = m.1 153 0 q := by rw [rI_o (by omega), z _ _ _ (by decide) (by decide) (by decide) (by decide)]
    rw [r5, w5]
    have r6 : (sI (sI h' 152 0 (80 * q) (f id)) 153 0 q (m.1 153 0 q + 1)).1 138 0 (f id) = g := by rw [rI_o (by omega), rI_o (by omega), z _ _ _ (by decide) (by decide) (by decide) (by decide), h8]
    rw [r6, w4]
    have r7 : (sI (sI (sI (sI (sI h' 152 0 (80 * q) (f id)) 153 0 q (m.1 153 0 q + 1)) 137 0 (f id) (300 + g)) 138 0 (f id) (-1)) 133 0 (f id) 4).1 12 0 2 = nw := by
      simp only [rI_I]
      rw [if_neg (by omega), if_neg (by omega), if_neg (by omega), if_neg (by omega), if_neg (by omega), z _ _ _ (by decide) (by decide) (by decide) (by decide), hnow]
    rw [r7]
  -- what the line shows
  have RA : relN f N B H (sI (sI c 4 l 16 nw) 4 l 7 1) (sI (sI m 125 0 l nw) 124 0 l 1) := by
    refine rel_l hf R (so_I (so_I (so_rfl c) rfl _ _) rfl _ _) (so_I (so_I (so_rfl m) rfl _ _) rfl _ _) (fun x => ?_)
    have := R.2.1 x
    simp only [rI_I]
    grind
  have t := t_back (c := sI (sI c 4 l 16 nw) 4 l 7 1) (m := sI (sI m 125 0 l nw) 124 0 l 1) (id := id) (l := l) (g := g) (nw := nw) (tn := c.1 2 q 4 - 1) hf ⟨hv.1, hv.2.1, by simpa [rI_I] using hv.2.2⟩ (by simpa [rI_I] using hs) ⟨hl, l2, l3, hrb⟩ ⟨hg0.1, hg0.2, by simpa [rI_I, rI_R, he, hq] using hg⟩ RA.2.2.1
  generalize hC : sI (sI (sI (sI (sI (sR (sI (sI (sR c 4 l 13 none) 4 l 16 nw) 4 l 7 1) 0 id 3 none) 0 id 9 4) 0 id 10 nw) 2 q 4 (c.1 2 q 4 - 1)) 0 id 14 (c.1 2 q 4 - 1)) 2 q 3 (c.1 2 q 3 + 1) = C at *
  generalize hM' : sI (sI (sI (sI (sI (sI h' 152 0 (80 * q) (f id)) 153 0 q (m.1 153 0 q + 1)) 137 0 (f id) (300 + g)) 138 0 (f id) (-1)) 133 0 (f id) 4) 145 0 (f id) nw = M at *
  have MI : ∀ k n j, M.1 k n j = if k = 145 ∧ n = 0 ∧ j = f id then nw else if k = 133 ∧ n = 0 ∧ j = f id then 4 else if k = 138 ∧ n = 0 ∧ j = f id then -1 else if k = 137 ∧ n = 0 ∧ j = f id then 300 + g else if k = 153 ∧ n = 0 ∧ j = q then m.1 153 0 q + 1 else if k = 152 ∧ n = 0 ∧ j = 80 * q then f id else if k = 152 ∧ n = 0 ∧ 80 * q + 1 ≤ j ∧ j ≤ 80 * q + m.1 153 0 q then m.1 152 0 (j - 1) else if k = 124 ∧ n = 0 ∧ j = l then 1 else if k = 125 ∧ n = 0 ∧ j = l then nw else if k = 121 ∧ n = 0 ∧ j = l then -1 else m.1 k n j := fun k n j => by
    rw [← hM']
    simp only [rI_I, y3]
    rw [← hM0]
    grind
  have CI : ∀ k n j, C.1 k n j = if k = 2 ∧ n = q ∧ j = 3 then c.1 2 q 3 + 1 else if k = 0 ∧ n = id ∧ j = 14 then c.1 2 q 4 - 1 else if k = 2 ∧ n = q ∧ j = 4 then c.1 2 q 4 - 1 else if k = 0 ∧ n = id ∧ j = 10 then nw else if k = 0 ∧ n = id ∧ j = 9 then 4 else if k = 4 ∧ n = l ∧ j = 7 then 1 else if k = 4 ∧ n = l ∧ j = 16 then nw else c.1 k n j := fun k n j => by
    rw [← hC]
    simp only [rI_I, rR_I]
  have CR : ∀ k n j, C.2.2 k n j = if k = 0 ∧ n = id ∧ j = 3 then none else if k = 4 ∧ n = l ∧ j = 13 then none else c.2.2 k n j := fun k n j => by
    rw [← hC]
    simp only [rI_R, rR_R]
  have CL : C.2.1 = c.2.1 := by rw [← hC]; rfl
  have ML : M.2 = m.2 := by rw [← hM']; exact y2
  have I9 : ∀ n, C.1 0 n 9 = if n = id then 4 else c.1 0 n 9 := fun n => by rw [CI]; simp
  have sc : so w_x (sI (sI c 4 l 16 nw) 4 l 7 1) C := fun k n j hk => by
    refine ⟨?_, by rw [CL]; rfl, ?_⟩
    · rw [CI]; simp only [rI_I]; simp [w_x] at hk; grind
    · rw [CR]; simp only [rI_R]; simp [w_x] at hk; grind
  have sm : so w_xm (sI (sI m 125 0 l nw) 124 0 l 1) M := fun k n j hk => by
    refine ⟨?_, by rw [ML]; rfl, by rw [ML]; rfl⟩
    have nk : ∀ k0 : Nat, w_xm k0 j = true → k ≠ k0 := fun k0 h0 z => by rw [z, h0] at hk; cases hk
    rw [MI, if_neg (fun z => nk 145 rfl z.1), if_neg (fun z => nk 133 rfl z.1), if_neg (fun z => nk 138 rfl z.1), if_neg (fun z => nk 137 rfl z.1), if_neg (fun z => nk 153 rfl z.1), if_neg (fun z => nk 152 rfl z.1), if_neg (fun z => nk 152 rfl z.1)]
    have h121 : ¬ (k = 121 ∧ n = 0 ∧ j = l) := fun z => nk 121 rfl z.1
    rw [if_neg h121]
    simp only [rI_I]
  have RF : relN f N (B + 1) H C M := by
    refine rel_mk (by omega) RA sc sm ?_ ?_ ?_ ?_
    · refine r_h_cg (fun k n j hk => ?_) (fun k n j hk => ?_) t
      · have k2 : k ≠ 2 := fun z => by rw [z] at hk; cases hk
        refine ⟨?_, by rw [CL]; rfl, ?_⟩
        · rw [CI]; simp only [rI_I, rR_I]; grind
        · rw [CR]; simp only [rI_R, rR_R]
      · have k2 : k ≠ 152 := fun z => by rw [z] at hk; cases hk
        have k3 : k ≠ 153 := fun z => by rw [z] at hk; cases hk
        rw [MI]; simp only [rI_I]; grind
    · refine q_ins (p := 0) (tn := c.1 2 q 4 - 1) hf R.2.2.2.2.1 hv (by omega) q06.1 q06.2 (by omega) h60 (by omega) I9 (fun n => by rw [CI]; simp) (fun n => ?_) (fun n => ?_) (fun n => ?_) (fun n hn => ?_) ?_ (fun a' i i0 i1 _ t1 _ => ⟨fun w => by omega, fun _ => by omega⟩) (fun n j => by rw [CR]; simp) (fun k j k1 k2 => ?_) (fun q' i a0 a1 i0 i1 => ?_) (fun j => ?_)
      · rw [CR]
        by_cases z : n = id
        · subst z; simp [hg]
        · simp [z]
      · rw [CI, CI]; simp
      · rw [CI]; simp
      · rw [CI, CI]; simp [hn]
      · have e1 : C.1 2 q 4 = c.1 2 q 4 - 1 := by rw [CI]; simp
        have e2 : C.1 2 q 5 = c.1 2 q 5 := by rw [CI]; simp
        rw [e1, e2]; omega
      · rw [MI, if_neg (by omega), if_neg (by omega), if_neg (by omega), if_neg (by omega), if_neg (by omega), if_neg (by omega), if_neg (by omega), if_neg (by omega), if_neg (by omega), if_neg (by omega)]
      · rw [MI, if_neg (by omega), if_neg (by omega), if_neg (by omega), if_neg (by omega), if_neg (by omega)]
        by_cases w : q' = q ∧ i = 0
        · rw [if_pos (show 152 = 152 ∧ (0 : Int) = 0 ∧ 80 * q' + i = 80 * q from ⟨rfl, rfl, by omega⟩), if_pos w]
        · rw [if_neg (show ¬ (152 = 152 ∧ (0 : Int) = 0 ∧ 80 * q' + i = 80 * q) by omega), if_neg w]
          by_cases w2 : q' = q ∧ 0 < i ∧ i ≤ m.1 153 0 q
          · rw [if_pos (show 152 = 152 ∧ (0 : Int) = 0 ∧ 80 * q + 1 ≤ 80 * q' + i ∧ 80 * q' + i ≤ 80 * q + m.1 153 0 q from ⟨rfl, rfl, by omega, by omega⟩), if_pos w2]
            exact cgI _ _ _ (by omega)
          · rw [if_neg (show ¬ (152 = 152 ∧ (0 : Int) = 0 ∧ 80 * q + 1 ≤ 80 * q' + i ∧ 80 * q' + i ≤ 80 * q + m.1 153 0 q) by omega), if_neg w2, if_neg (by omega), if_neg (by omega), if_neg (by omega)]
      · rw [MI]; simp
    · refine rr_cg R.2.2.2.2.2.1 (fun s a b => ?_) (fun e r => by rw [CI]; simp) (by rw [CI]; simp)
      have h2 : m.1 133 0 (f id) = 2 := by omega
      rw [MI, MI, MI]
      by_cases w : s = f id
      · subst w; simp [h2]
      · simp [w]
    · exact r_a_mono (by omega) (a_cg R.2.2.2.2.2.2.1 (fun n => by
        rw [I9]
        by_cases w : n = id
        · subst w; simp; omega
        · simp [w]) (fun j => by rw [CR]; simp) (by rw [CI]; simp) (by rw [CI]; simp) (fun j => by rw [MI]; simp) (by rw [MI]; simp))
  refine ⟨C, M, ec, em, RF, ?_, ?_⟩
  · exact so_tr (so_I (so_I (so_rfl c) rfl _ _) rfl _ _) (so_mono w_e1 sc)
  · exact so_tr (so_I (so_I (so_rfl m) rfl _ _) rfl _ _) (so_mono w_e2 sm)
end RV
