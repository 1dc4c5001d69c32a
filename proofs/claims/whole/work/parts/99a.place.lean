/-! ===== placing: the kinds of rows ===== -/
theorem idemR (m : JM) (k : Nat) (n j : Int) : sR m k n j (m.2.2 k n j) = m := by
  unfold sR
  refine Prod.ext rfl (Prod.ext rfl ?_)
  funext k' n' j'
  simp only
  split
  · rename_i q; obtain ⟨rfl, rfl, rfl⟩ := q; rfl
  · rfl
theorem k_R0 {x n : Int} {g : Int → Int} (h : k_R x n g) : (j_lcmp x 0 = 0 ↔ n ≤ 0) := by
  obtain ⟨K, hK, k1, k2, _⟩ := h
  have z := k_P0 hK
  rw [lc_eq, k1, k2]
  constructor
  · intro h
    have : K = [] := z.1 (by omega)
    rw [this]; decide
  · intro h
    have : K = [] := List.eq_nil_of_length_eq_zero (by omega)
    have := z.2 this
    omega
section RP
variable {f : Int → Int} {N z1 z2 X : Int} {sec : Option Int} {Y zd : Int} {c m c' m' : JM} {B B' : Int} {H : HT}
/-- it announces itself and is placed -/
theorem p_fin (hf : f_ok f) (hB : B < 2000000000) {id : Int} (hv : lv c id) (R : rel f N (-1) (-1) (-1) none Y id B H c m) (ky : k_R (c.2.1 0 id 8) (m.1 140 0 (f id)) (fun j => m.1 139 0 (12 * f id + j))) (k1 : (c.1 0 id 9 = 0 → m.1 140 0 (f id) ≤ 11) ∧ c.1 0 id 12 ≤ 5) (gp : m.1 138 0 (f id) = -1 → c.1 0 id 9 ≤ 2 → c.2.2 0 id 5 = none) (zn : c.1 0 id 9 ≠ 0) :
    ∃ c' m', F11_announce (some id) c = some c' ∧ F12_acm (f id) m = some m' ∧ rel f N (-1) (-1) (-1) none Y (-1) (B + 1) H c' m' ∧ so w_C c c' ∧ so w_M m m' := by
  obtain ⟨c', m', p1, p2, p3, p4, p5, p6, p7, p8⟩ := p_ann hf hB hv R
  have i9 := (p6 0 id 9 (by decide) (by decide) (by omega)).1
  refine ⟨c', m', p1, p2, rel_zd p3 (fun _ => ?_) (fun _ => ?_) (fun _ => ?_) (fun _ => ?_) (fun _ q => absurd (i9 ▸ q) zn), p4, p5⟩
  · rw [(p6 0 id 8 (by decide) (by decide) (by omega)).2.1, p8 140 0 _ rfl (by decide)]
    obtain ⟨K, q1, q2, q3, q4⟩ := ky
    exact ⟨K, q1, q2, q3, fun j hj => by rw [← q4 j hj]; exact p8 139 0 _ rfl (by decide)⟩
  · rw [i9, (p6 0 id 12 (by decide) (by decide) (by omega)).1, p8 140 0 _ rfl (by decide)]; exact k1
  · rw [i9, (p6 0 id 5 (by decide) (by decide) (by omega)).2.2, p8 138 0 _ rfl (by decide)]; exact gp
  · rw [(p6 0 id 2 (by decide) (by decide) (by omega)).2.2]
    exact fun _ => p7
theorem so_id {w : Nat → Int → Bool} {a b : JM} (h : a = b) : so w a b := by rw [h]; exact so_rfl b
/-- its side B is nobody yet -/
theorem sd_of {id : Int} (hv : lv c id) (R : rel f N z1 z2 X sec Y zd B H c m) (h7 : m.1 137 0 (f id) = -1) : c.2.2 0 id 3 = none ∧ c.2.2 0 id 4 = none ∧ c.1 0 id 6 = -1 ∧ c.1 0 id 9 ≤ 2 := by
  have := R.2.2.1.2.2.2.2.1 id hv
  rcases this with ⟨_, a, b, d, e⟩ | h | h | h | h
  · exact ⟨a, b, d, e⟩
  all_goals (exfalso; have hm := R.2.2.1.2.2.1 id hv; omega)
theorem p_ring (hf : f_ok f) (hB : B + 2 < 2000000000) {id l g : Int} (hv : lv c id) (R : rel f N (-1) (-1) (-1) none Y id B H c m) (h7 : m.1 137 0 (f id) = -1) (hky : k_R (c.2.1 0 id 8) (m.1 140 0 (f id)) (fun j => m.1 139 0 (12 * f id + j))) (hfw : c.1 0 id 12 ≤ 5) (hzn : c.2.2 0 id 1 ≠ none → m.1 143 0 (f id) = c.1 0 id 11 ∧ 0 ≤ c.1 0 id 11 ∧ c.1 0 id 11 ≤ 3)
    (hl : 0 ≤ l ∧ l < 16 ∧ 8 * m.1 135 0 (f id) ≤ l ∧ l < 8 * m.1 135 0 (f id) + 8 ∧ c.1 4 l 6 = 0 ∧ c.2.2 4 l 13 = none) (hg : (g = -1 ∧ c.2.2 0 id 5 = none) ∨ (0 ≤ g ∧ g ≤ 2 ∧ c.2.2 0 id 5 = some (3 * m.1 135 0 (f id) + g))) :
    ∃ c1 c' m', F11_ring (some id) (some l) c = some c1 ∧ c1.1 0 id 9 = 2 ∧ F11_announce (some id) c1 = some c' ∧ F12_rings (f id) l g (sI m 121 0 l (f id)) = some m' ∧ rel f N (-1) (-1) (-1) none Y (-1) (B + 1) H c' m' ∧ so w_C c c' ∧ so w_M m m' := by
  have hfr := hf.2.2.1 id hv.1 (by have := hv.2.1; omega)
  obtain ⟨s1, s2, s3, s4⟩ := sd_of hv R h7
  have hnow : m.1 12 0 2 = c.1 11 0 10 := R.1.2.2.2.2.2.2.2.1
  have b_st := R.2.2.1.1 id hv.1 hv.2.1
  have t := t_ring (nw := c.1 11 0 10) hf hv ⟨s1, s2, s3, by omega⟩ hzn hl hg R.2.2.1
  have sc : so w_h c (sI (sI (sR (sR c 4 l 13 (some id)) 0 id 3 (some l)) 0 id 9 2) 0 id 10 (c.1 11 0 10)) := so_I (so_I (so_R (so_R (so_rfl c) rfl _ _) rfl _ _) rfl _ _) rfl _ _
  have sm : so w_hm m (sI (sI (sI (sI (sI m 121 0 l (f id)) 137 0 (f id) l) 138 0 (f id) g) 133 0 (f id) 2) 145 0 (f id) (c.1 11 0 10)) := so_I (so_I (so_I (so_I (so_I (so_rfl m) rfl _ _) rfl _ _) rfl _ _) rfl _ _) rfl _ _
  have R1 := rel_h hf R t sc sm (fun n => by
    have := hv.2.2
    simp only [rI_I, rI_R, rR_R, rR_I]
    by_cases z : n = id
    · subst z; simp; omega
    · simp [z]) (fun s a b => by
    simp only [rI_I]
    by_cases z : s = f id
    · subst z
      have h3 : m.1 133 0 (f id) ≠ 3 ∧ m.1 133 0 (f id) ≠ -1 := by have := hv.2.2; omega
      simp [h3.1, h3.2]
    · simp [z])
  obtain ⟨c', m', p1, p2, p3, p4, p5⟩ := p_fin hf (by omega) (id := id) ⟨hv.1, hv.2.1, by simp [rI_I]⟩ R1 (by simpa [rI_I, rI_L, rR_L] using hky) (by simp [rI_I, rR_I]; exact hfw) (by
    simp [rI_I, rI_R, rR_R, rR_I]
    intro z
    rcases hg with ⟨_, q⟩ | ⟨q, _, _⟩
    · exact q
    · omega) (by simp [rI_I])
  refine ⟨_, c', m', ?_, ?_, p1, ?_, p3, so_tr (rw_C sc) p4, so_tr (rw_M sm) p5⟩
  · unfold F11_ring F11_enter
    simp only [Option.bind_some, lt_d]
    simp [rI_I, rR_I]
  · simp [rI_I]
  · unfold F12_rings F12_becomes
    simp only [g_t hfr, lt_d, Option.bind_some]
    have e1 : (sI (sI (sI (sI m 121 0 l (f id)) 137 0 (f id) l) 138 0 (f id) g) 133 0 (f id) 2).1 12 0 2 = c.1 11 0 10 := by simp [rI_I, hnow]
    rw [e1, p2, Option.bind_some]
theorem p_oth (hf : f_ok f) (hB : B + 2 < 2000000000) {id l b : Int} (hv : lv c id) (R : rel f N (-1) (-1) (-1) none Y id B H c m) (h7 : m.1 137 0 (f id) = -1) (hky : k_R (c.2.1 0 id 8) (m.1 140 0 (f id)) (fun j => m.1 139 0 (12 * f id + j))) (hfw : c.1 0 id 12 ≤ 5) (hzn : c.2.2 0 id 1 ≠ none → m.1 143 0 (f id) = c.1 0 id 11 ∧ 0 ≤ c.1 0 id 11 ∧ c.1 0 id 11 ≤ 3)
    (hl : 0 ≤ l ∧ l < 16 ∧ 8 * m.1 135 0 (f id) ≤ l ∧ l < 8 * m.1 135 0 (f id) + 8 ∧ c.2.2 4 l 11 = some b ∧ c.1 0 b 9 = 3 ∧ c.2.2 4 l 12 = none) (hg : c.2.2 0 id 5 = none) :
    ∃ c' m', F11_announce (some id) (sI (sI (sR (sR c 4 l 12 (some id)) 0 id 3 (some l)) 0 id 9 2) 0 id 10 (c.1 11 0 10)) = some c' ∧ F12_rings (f id) l (-1) (sI m 120 0 l (f id)) = some m' ∧ rel f N (-1) (-1) (-1) none Y (-1) (B + 1) H c' m' ∧ so w_C c c' ∧ so w_M m m' := by
  have hfr := hf.2.2.1 id hv.1 (by have := hv.2.1; omega)
  obtain ⟨s1, s2, s3, s4⟩ := sd_of hv R h7
  have hnow : m.1 12 0 2 = c.1 11 0 10 := R.1.2.2.2.2.2.2.2.1
  have b_st := R.2.2.1.1 id hv.1 hv.2.1
  have t := t_other (nw := c.1 11 0 10) hf hv ⟨s1, s2, s3, by omega⟩ hzn hl hg R.2.2.1
  have sc : so w_h c (sI (sI (sR (sR c 4 l 12 (some id)) 0 id 3 (some l)) 0 id 9 2) 0 id 10 (c.1 11 0 10)) := so_I (so_I (so_R (so_R (so_rfl c) rfl _ _) rfl _ _) rfl _ _) rfl _ _
  have sm : so w_hm m (sI (sI (sI (sI (sI m 120 0 l (f id)) 137 0 (f id) l) 138 0 (f id) (-1)) 133 0 (f id) 2) 145 0 (f id) (c.1 11 0 10)) := so_I (so_I (so_I (so_I (so_I (so_rfl m) rfl _ _) rfl _ _) rfl _ _) rfl _ _) rfl _ _
  have R1 := rel_h hf R t sc sm (fun n => by
    have := hv.2.2
    simp only [rI_I, rI_R, rR_R, rR_I]
    by_cases z : n = id
    · subst z; simp; omega
    · simp [z]) (fun s a b => by
    simp only [rI_I]
    by_cases z : s = f id
    · subst z
      have h3 : m.1 133 0 (f id) ≠ 3 ∧ m.1 133 0 (f id) ≠ -1 := by have := hv.2.2; omega
      simp [h3.1, h3.2]
    · simp [z])
  obtain ⟨c', m', p1, p2, p3, p4, p5⟩ := p_fin hf (by omega) (id := id) ⟨hv.1, hv.2.1, by simp [rI_I]⟩ R1 (by simpa [rI_I, rI_L, rR_L] using hky) (by simp [rI_I, rR_I]; exact hfw) (by simp [rI_I, rI_R, rR_R, rR_I, hg]) (by simp [rI_I])
  refine ⟨c', m', p1, ?_, p3, so_tr (rw_C sc) p4, so_tr (rw_M sm) p5⟩
  unfold F12_rings F12_becomes
  simp only [g_t hfr, lt_d, Option.bind_some]
  have e1 : (sI (sI (sI (sI m 120 0 l (f id)) 137 0 (f id) l) 138 0 (f id) (-1)) 133 0 (f id) 2).1 12 0 2 = c.1 11 0 10 := by simp [rI_I, hnow]
  rw [e1, p2, Option.bind_some]
def may (c : JM) (l : Int) : Prop := c.1 28 l 2 ≠ 0 ∧ ∃ b, c.2.2 4 l 11 = some b ∧ c.1 0 b 9 = 3 ∧ c.2.2 4 l 12 = none
theorem f_may (l : Int) : ∃ v, F4_canTakeOther l c = some (v, c) ∧ ((v = 1 ∧ may c l) ∨ (v = 0 ∧ ¬ may c l)) := by
  unfold F4_canTakeOther F4_canTakeOther_38 may
  rw [g_t (by omega)]
  by_cases a : c.1 28 l 2 = 0
  · exact ⟨0, by rw [if_pos a], Or.inr ⟨rfl, fun z => z.1 a⟩⟩
  · rw [if_neg a]
    cases h : c.2.2 4 l 11 with
    | none => exact ⟨0, by rw [if_pos rfl], Or.inr ⟨rfl, fun z => by obtain ⟨_, b, q, _⟩ := z; cases q⟩⟩
    | some b =>
      rw [if_neg (by simp), Option.bind_some]
      by_cases d : c.1 0 b 9 = 3 <;> by_cases e : c.2.2 4 l 12 = none
      · exact ⟨1, by rw [if_pos d, if_pos e], Or.inl ⟨rfl, a, b, rfl, d, e⟩⟩
      · exact ⟨0, by rw [if_pos d, if_neg e], Or.inr ⟨rfl, fun z => by obtain ⟨_, _, _, _, q⟩ := z; exact e q⟩⟩
      · exact ⟨0, by rw [if_neg d], Or.inr ⟨rfl, fun z => by obtain ⟨_, b', q, q2, _⟩ := z; cases q; exact d q2⟩⟩
      · exact ⟨0, by rw [if_neg d], Or.inr ⟨rfl, fun z => by obtain ⟨_, b', q, q2, _⟩ := z; cases q; exact d q2⟩⟩
theorem m_may (hf : f_ok f) (R : rel f N z1 z2 (-1) sec Y zd B H c m) (kp : Int → Int → JM → Option JM) (s : Int) {l : Int} (hl : 0 ≤ l ∧ l < 16) : ∃ v, F12_toLine kp s l m = F12_toLine_53 kp s l v m ∧ ((v = 1 ∧ may c l) ∨ (v = 0 ∧ ¬ may c l)) := by
  have w1 : w32 (3 * l) = 3 * l := w32_of (by omega) (by omega)
  have w2 : w32 (3 * l + 2) = 3 * l + 2 := w32_of (by omega) (by omega)
  obtain ⟨f1, _⟩ := R.2.2.2.2.2.2.2.2.2 l 2 hl.1 hl.2 (by omega) (by omega)
  have hla := R.2.2.1.2.2.2.2.2.2.2.2.2.2.2.2.2.2.1 l hl.1 hl.2
  have hlo := R.2.2.1.2.2.2.2.2.2.2.2.2.2.2.2.2.2.2.1 l hl.1 hl.2 (by omega)
  have hwa := R.2.2.1.2.2.2.2.2.2.2.2.2.2.2.2.2.2.2.2.2.1 l
  unfold F12_toLine F12_toLine_52 may
  rw [w1, w2, g_t (by omega), f1, g_t hl, g_t hl, g_t hl, hla, hlo]
  by_cases a : c.1 28 l 2 = 0
  · exact ⟨0, by rw [if_pos a], Or.inr ⟨rfl, fun z => z.1 a⟩⟩
  · rw [if_neg a]
    cases h : c.2.2 4 l 11 with
    | none => exact ⟨0, by rw [if_pos (show rf f none = -1 from rfl)], Or.inr ⟨rfl, fun z => by obtain ⟨_, b, q, _⟩ := z; cases q⟩⟩
    | some b =>
      have hb := (hwa b h).2.2.1
      have hfr := hf.2.2.1 b hb.1 (by have := hb.2.1; omega)
      have hst := (R.2.2.1.1 b hb.1 hb.2.1).1
      show ∃ v, (if f b = -1 then _ else _) = _ ∧ _
      rw [if_neg (hf.2.1 b)]
      show ∃ v, g_ (0 ≤ f b ∧ f b < 80) _ = _ ∧ _
      rw [g_t hfr]
      show ∃ v, (if m.1 133 0 (f b) = 3 then _ else _) = _ ∧ _
      rw [hst]
      have e0 : (rf f (c.2.2 4 l 12) = -1) ↔ c.2.2 4 l 12 = none := rf_no hf _
      by_cases d : c.1 0 b 9 = 3 <;> by_cases e : c.2.2 4 l 12 = none
      · exact ⟨1, by rw [if_pos d, if_pos (e0.2 e)], Or.inl ⟨rfl, a, b, rfl, d, e⟩⟩
      · exact ⟨0, by rw [if_pos d, if_neg (fun q => e (e0.1 q))], Or.inr ⟨rfl, fun z => by obtain ⟨_, _, _, _, q⟩ := z; exact e q⟩⟩
      · exact ⟨0, by rw [if_neg d], Or.inr ⟨rfl, fun z => by obtain ⟨_, b', q, q2, _⟩ := z; cases q; exact d q2⟩⟩
      · exact ⟨0, by rw [if_neg d], Or.inr ⟨rfl, fun z => by obtain ⟨_, b', q, q2, _⟩ := z; cases q; exact d q2⟩⟩
/-- the keys alone change -/
theorem rel_key (hf : f_ok f) {id x : Int} (R : rel f N z1 z2 X sec Y id B H c m) : rel f N z1 z2 X sec Y id B H (sL c 0 id 8 x) m := by
  have hh : r_h f N z1 z2 X sec Y id (sL c 0 id 8 x) m := by
    have hlv : ∀ i, lv (sL c 0 id 8 x) i ↔ lv c i := fun i => by unfold lv; rw [rL_I]
    have HH := R.2.2.1
    obtain ⟨h_st, h_sx, h_hm, h_sa, h_sb, h_gp, h_ky, h_k1, h_fw, h_fr, h_ce, h_an, h_zn, h_rw, h_la, h_lo, h_lr, h_wa, h_wo, h_wx, h_wr, h_w3, h_w4, h_w8, h_w9, h_w5, h_t1, h_t2, h_t3, h_t6, h_t9, h_ty, h_xx, h_zr⟩ := HH
    refine ⟨?_, ?_, ?_, ?_, ?_, ?_, ?_, ?_, ?_, ?_, ?_, ?_, ?_, ?_, ?_, ?_, ?_, ?_, ?_, ?_, ?_, ?_, ?_, ?_, ?_, ?_, ?_, ?_, ?_, ?_, ?_, ?_, ?_, ?_⟩
    · -- st
      simpa [d_st, hlv, rI_I, rI_L, rI_R, rL_I, rL_L, rL_R, rR_I, rR_L, rR_R] using h_st
    · -- sx
      simpa [d_sx, hlv, rI_I, rI_L, rI_R, rL_I, rL_L, rL_R, rR_I, rR_L, rR_R] using h_sx
    · -- hm
      simpa [d_hm, hlv, rI_I, rI_L, rI_R, rL_I, rL_L, rL_R, rR_I, rR_L, rR_R] using h_hm
    · -- sa
      simpa [d_sa, hlv, rI_I, rI_L, rI_R, rL_I, rL_L, rL_R, rR_I, rR_L, rR_R] using h_sa
    · -- sb
      simpa [d_sb, hlv, rI_I, rI_L, rI_R, rL_I, rL_L, rL_R, rR_I, rR_L, rR_R] using h_sb
    · -- gp
      simpa [d_gp, hlv, rI_I, rI_L, rI_R, rL_I, rL_L, rL_R, rR_I, rR_L, rR_R] using h_gp
    · -- ky
      simp only [d_ky, hlv, rL_L] at h_ky ⊢
      intro i a b
      rw [if_neg (by omega)]
      exact h_ky i a b
    · -- k1
      simpa [d_k1, hlv, rI_I, rI_L, rI_R, rL_I, rL_L, rL_R, rR_I, rR_L, rR_R] using h_k1
    · -- fw
      simpa [d_fw, hlv, rI_I, rI_L, rI_R, rL_I, rL_L, rL_R, rR_I, rR_L, rR_R] using h_fw
    · -- fr
      simpa [d_fr, hlv, rI_I, rI_L, rI_R, rL_I, rL_L, rL_R, rR_I, rR_L, rR_R] using h_fr
    · -- ce
      simpa [d_ce, hlv, rI_I, rI_L, rI_R, rL_I, rL_L, rL_R, rR_I, rR_L, rR_R] using h_ce
    · -- an
      simpa [d_an, hlv, rI_I, rI_L, rI_R, rL_I, rL_L, rL_R, rR_I, rR_L, rR_R] using h_an
    · -- zn
      simpa [d_zn, hlv, rI_I, rI_L, rI_R, rL_I, rL_L, rL_R, rR_I, rR_L, rR_R] using h_zn
    · -- rw
      simpa [d_rw, hlv, rI_I, rI_L, rI_R, rL_I, rL_L, rL_R, rR_I, rR_L, rR_R] using h_rw
    · -- la
      simpa [d_la, hlv, rI_I, rI_L, rI_R, rL_I, rL_L, rL_R, rR_I, rR_L, rR_R] using h_la
    · -- lo
      simpa [d_lo, hlv, rI_I, rI_L, rI_R, rL_I, rL_L, rL_R, rR_I, rR_L, rR_R] using h_lo
    · -- lr
      simpa [d_lr, hlv, rI_I, rI_L, rI_R, rL_I, rL_L, rL_R, rR_I, rR_L, rR_R] using h_lr
    · -- wa
      simpa [d_wa, hlv, rI_I, rI_L, rI_R, rL_I, rL_L, rL_R, rR_I, rR_L, rR_R] using h_wa
    · -- wo
      simpa [d_wo, hlv, rI_I, rI_L, rI_R, rL_I, rL_L, rL_R, rR_I, rR_L, rR_R] using h_wo
    · -- wx
      simpa [d_wx, hlv, rI_I, rI_L, rI_R, rL_I, rL_L, rL_R, rR_I, rR_L, rR_R] using h_wx
    · -- wr
      simpa [d_wr, hlv, rI_I, rI_L, rI_R, rL_I, rL_L, rL_R, rR_I, rR_L, rR_R] using h_wr
    · -- w3
      simpa [d_w3, hlv, rI_I, rI_L, rI_R, rL_I, rL_L, rL_R, rR_I, rR_L, rR_R] using h_w3
    · -- w4
      simpa [d_w4, hlv, rI_I, rI_L, rI_R, rL_I, rL_L, rL_R, rR_I, rR_L, rR_R] using h_w4
    · -- w8
      simpa [d_w8, hlv, rI_I, rI_L, rI_R, rL_I, rL_L, rL_R, rR_I, rR_L, rR_R] using h_w8
    · -- w9
      simpa [d_w9, hlv, rI_I, rI_L, rI_R, rL_I, rL_L, rL_R, rR_I, rR_L, rR_R] using h_w9
    · -- w5
      simpa [d_w5, hlv, rI_I, rI_L, rI_R, rL_I, rL_L, rL_R, rR_I, rR_L, rR_R] using h_w5
    · -- t1
      simpa [d_t1, hlv, rI_I, rI_L, rI_R, rL_I, rL_L, rL_R, rR_I, rR_L, rR_R] using h_t1
    · -- t2
      simpa [d_t2, hlv, rI_I, rI_L, rI_R, rL_I, rL_L, rL_R, rR_I, rR_L, rR_R] using h_t2
    · -- t3
      simpa [d_t3, hlv, rI_I, rI_L, rI_R, rL_I, rL_L, rL_R, rR_I, rR_L, rR_R] using h_t3
    · -- t6
      simpa [d_t6, hlv, rI_I, rI_L, rI_R, rL_I, rL_L, rL_R, rR_I, rR_L, rR_R] using h_t6
    · -- t9
      simpa [d_t9, hlv, rI_I, rI_L, rI_R, rL_I, rL_L, rL_R, rR_I, rR_L, rR_R] using h_t9
    · -- ty
      simpa [d_ty, hlv, rI_I, rI_L, rI_R, rL_I, rL_L, rL_R, rR_I, rR_L, rR_R] using h_ty
    · -- xx
      simpa [d_xx, hlv, rI_I, rI_L, rI_R, rL_I, rL_L, rL_R, rR_I, rR_L, rR_R] using h_xx
    · -- zr
      simpa [d_zr, hlv, rI_I, rI_L, rI_R, rL_I, rL_L, rL_R, rR_I, rR_L, rR_R] using h_zr

  exact rel_h hf R hh (so_L (so_rfl c) rfl _ _) (so_rfl m) (fun n => by simp [rL_I, rL_R]) (fun s a b => by simp)


/-- a row to a line -/
theorem p_line (hf : f_ok f) (hB : B + 2 < 2000000000) (kp : Int → Int → JM → Option JM) {id l : Int} (P : plc f N Y B H id c m) (hzn : c.2.2 0 id 1 ≠ none → m.1 143 0 (f id) = c.1 0 id 11 ∧ 0 ≤ c.1 0 id 11 ∧ c.1 0 id 11 ≤ 3) (hl : 8 * m.1 135 0 (f id) ≤ l ∧ l < 8 * m.1 135 0 (f id) + 8) :
    ∃ out c1, F11_placeToLine (some id) (some l) c = some (out, c1) ∧
      ((0 < out ∧ out < 256 ∧ c1 = c ∧ F12_toLine kp (f id) l m = (F12_over (f id) out (-1) m).bind (fun h => some h)) ∨
       (out = 0 ∧ c1.1 0 id 9 = 2 ∧ ∃ c' m', F11_announce (some id) c1 = some c' ∧ F12_toLine kp (f id) l m = some m' ∧ rel f N (-1) (-1) (-1) none Y (-1) (B + 1) H c' m' ∧ so w_C c c' ∧ so w_M m m') ∨
       (out = -2 ∧ ∃ fi x, 0 ≤ fi ∧ fi < 48 ∧ c1 = sL c 0 id 8 x ∧ k_R x (m.1 129 0 fi) (fun j => m.1 128 0 (12 * fi + j)) ∧ F12_toLine kp (f id) l m = (F12_goesOn kp (f id) fi m).bind (fun h => some h))) := by
  obtain ⟨R, hv, h7, hg, hky, hfw⟩ := P
  have b_hm := R.2.2.1.2.2.1 id hv
  have hl2 : 0 ≤ l ∧ l < 16 := by omega
  have w1 : w32 (3 * l) = 3 * l := w32_of (by omega) (by omega)
  have w2 : w32 (3 * l + 1) = 3 * l + 1 := w32_of (by omega) (by omega)
  obtain ⟨f1, f2, f3⟩ := R.2.2.2.2.2.2.2.2.2 l 0 hl2.1 hl2.2 (by omega) (by omega)
  obtain ⟨_, _, f4⟩ := R.2.2.2.2.2.2.2.2.2 l 1 hl2.1 hl2.2 (by omega) (by omega)
  rw [Int.add_zero] at f1 f3
  have i5 : sR c 0 id 5 none = c := by rw [← hg]; exact idemR c 0 id 5
  obtain ⟨v, v1, v2⟩ := f_may (c := c) l
  obtain ⟨u, u1, u2⟩ := m_may hf R kp (f id) hl2
  have huv : u = v := by
    rcases v2 with ⟨a, b⟩ | ⟨a, b⟩ <;> rcases u2 with ⟨d, e⟩ | ⟨d, e⟩
    · rw [a, d]
    · exact absurd b e
    · exact absurd e b
    · rw [a, d]
  subst huv
  obtain ⟨y1, _, _⟩ := free_of hf R.2.1 R.2.2.1 l hl2.1 hl2.2
  have fr : F12_isFree l m = some (if c.1 4 l 6 = 0 ∧ c.2.2 4 l 13 = none then 1 else 0, m) := by rw [m_free hl2]; simp only [y1]
  rw [u1]
  unfold F11_placeToLine F12_toLine_53
  rw [Option.bind_some]
  simp only [w1, w2, g_t (show (0 : Int) ≤ 0 ∧ (0 : Int) < 3 by omega), g_t (show (0 : Int) ≤ 1 ∧ (1 : Int) < 3 by omega), g_t (show 0 ≤ 3 * l ∧ 3 * l < 48 by omega), g_t (show 0 ≤ 3 * l + 1 ∧ 3 * l + 1 < 48 by omega), f1, lt_d]
  by_cases a0 : c.1 28 l 0 = 0
  · rw [if_pos a0, if_pos a0]
    have z0 := k_R0 f3
    by_cases a1 : m.1 129 0 (3 * l) ≤ 0
    · rw [if_pos (z0.2 a1), if_pos a1, Option.bind_some, i5, f_free, fr, Option.bind_some, Option.bind_some]
      dsimp only
      by_cases a2 : c.1 4 l 6 = 0 ∧ c.2.2 4 l 13 = none
      · rw [if_pos a2, if_neg (show ¬ ((1 : Int) = 0) by decide), if_neg (show ¬ ((1 : Int) = 0) by decide), g_t hl2]
        obtain ⟨c1, c', m', p1, p2, p3, p4, p5, p6, p7⟩ := p_ring (l := l) (g := -1) hf hB hv R h7 hky hfw hzn ⟨hl2.1, hl2.2, hl.1, hl.2, a2.1, a2.2⟩ (Or.inl ⟨rfl, hg⟩)
        rw [p1, Option.bind_some, p4, Option.bind_some]
        exact ⟨0, c1, rfl, Or.inr (Or.inl ⟨rfl, p2, c', m', p3, rfl, p5, p6, p7⟩)⟩
      · rw [if_neg a2, if_pos rfl, if_pos rfl, v1, Option.bind_some]
        dsimp only
        rcases v2 with ⟨rfl, _, b, b1, b2, b3⟩ | ⟨rfl, hn⟩
        · rw [if_neg (show ¬ ((1 : Int) = 0) by decide), if_neg (show ¬ ((1 : Int) = 0) by decide), g_t hl2]
          obtain ⟨c', m', p1, p2, p3, p4, p5⟩ := p_oth (l := l) hf hB hv R h7 hky hfw hzn ⟨hl2.1, hl2.2, hl.1, hl.2, b1, b2, b3⟩ hg
          rw [p2, Option.bind_some]
          refine ⟨0, _, ?_, Or.inr (Or.inl ⟨rfl, ?_, c', m', p1, rfl, p3, p4, p5⟩)⟩
          · unfold F11_enter
            simp only [Option.bind_some, lt_d]
            simp [rI_I, rR_I]
          · simp [rI_I]
        · rw [if_pos rfl, if_pos rfl]
          have z1 := k_R0 f4
          by_cases a3 : m.1 129 0 (3 * l + 1) ≤ 0
          · rw [if_pos (z1.2 a3), if_pos a3]
            exact ⟨2, c, rfl, Or.inl ⟨by omega, by omega, rfl, rfl⟩⟩
          · rw [if_neg (fun q => a3 (z1.1 q)), if_neg a3]
            exact ⟨-2, _, rfl, Or.inr (Or.inr ⟨rfl, 3 * l + 1, _, by omega, by omega, rfl, f4, rfl⟩)⟩
    · rw [if_neg (fun q => a1 (z0.1 q)), if_neg a1, Option.bind_some]
      exact ⟨-2, _, rfl, Or.inr (Or.inr ⟨rfl, 3 * l, _, by omega, by omega, rfl, f3, rfl⟩)⟩
  · rw [if_neg a0, if_neg a0]
    exact ⟨8, c, rfl, Or.inl ⟨by omega, by omega, rfl, rfl⟩⟩
end RP
