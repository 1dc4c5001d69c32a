/-! ===== messages that come: signals ===== -/
theorem v_and {x : Int} (k : Nat) (h0 : 0 ≤ x) (h1 : x < 2147483648) : j_and (w32 x) ((2 ^ k - 1 : Nat) : Int) = x % ((2 ^ k : Nat) : Int) := by
  rw [w32_of (by omega) h1]
  exact i_and h0 h1 k rfl
theorem v_type {ty k a : Nat} (hty : ty < 8) (hk : k < 16) (ha : a < 2 ^ 55) (h : JM) : F9_typeOf ((ty * 2 ^ 59 + k * 2 ^ 55 + a : Nat) : Int) h = some ((ty : Int), h) := by
  unfold F9_typeOf
  have e : (ty * 2 ^ 59 + k * 2 ^ 55 + a) / 2 ^ 59 = ty := by omega
  rw [show (59 : Int) = ((59 : Nat) : Int) from rfl, n_lshr (by omega) (by decide), e, show (7 : Int) = ((2 ^ 3 - 1 : Nat) : Int) from rfl, v_and 3 (by omega) (by omega)]
  congr 2
  omega
theorem v_circ {ty k a : Nat} (hty : ty < 8) (hk : k < 16) (ha : a < 2 ^ 55) (h : JM) : F9_circuitOf ((ty * 2 ^ 59 + k * 2 ^ 55 + a : Nat) : Int) h = some ((k : Int), h) := by
  unfold F9_circuitOf
  have e : (ty * 2 ^ 59 + k * 2 ^ 55 + a) / 2 ^ 55 = 16 * ty + k := by omega
  rw [show (55 : Int) = ((55 : Nat) : Int) from rfl, n_lshr (by omega) (by decide), e, show (15 : Int) = ((2 ^ 4 - 1 : Nat) : Int) from rfl, v_and 4 (by omega) (by omega)]
  congr 2
  omega
theorem v_forw {ty k w q : Nat} (hty : ty < 8) (hk : k < 16) (hw : w < 8) (hq : q < 2 ^ 52) (h : JM) : F9_forwardsOf ((ty * 2 ^ 59 + k * 2 ^ 55 + w * 2 ^ 52 + q : Nat) : Int) h = some ((w : Int), h) := by
  unfold F9_forwardsOf
  have e : (ty * 2 ^ 59 + k * 2 ^ 55 + w * 2 ^ 52 + q) / 2 ^ 52 = 128 * ty + 8 * k + w := by omega
  rw [show (52 : Int) = ((52 : Nat) : Int) from rfl, n_lshr (by omega) (by decide), e, show (7 : Int) = ((2 ^ 3 - 1 : Nat) : Int) from rfl, v_and 3 (by omega) (by omega)]
  congr 2
  omega
theorem v_keys {ty k w q : Nat} (hty : ty < 8) (hk : k < 16) (hw : w < 8) (hq : q < 2 ^ 52) (h : JM) : F9_keysOf ((ty * 2 ^ 59 + k * 2 ^ 55 + w * 2 ^ 52 + q : Nat) : Int) h = some ((q : Int), h) := by
  unfold F9_keysOf
  rw [show (4503599627370495 : Int) = ((4503599627370495 : Nat) : Int) from rfl, n_land (by omega) (by decide), show (4503599627370495 : Nat) = 2 ^ 52 - 1 from rfl, Nat.and_two_pow_sub_one_eq_mod]
  have : (ty * 2 ^ 59 + k * 2 ^ 55 + w * 2 ^ 52 + q) % 2 ^ 52 = q := by omega
  rw [this]
theorem v_cause {ty k a : Nat} (hk : k < 16) (ha : a < 256) (h : JM) : F9_causeOf ((ty * 2 ^ 59 + k * 2 ^ 55 + a : Nat) : Int) h = some ((a : Int), h) := by
  unfold F9_causeOf
  have e : w32 ((ty * 2 ^ 59 + k * 2 ^ 55 + a : Nat) : Int) = (a : Int) := by
    unfold w32
    rw [Int.bmod_def]
    split <;> omega
  rw [e, show (255 : Int) = ((2 ^ 8 - 1 : Nat) : Int) from rfl, i_and (by omega) (by omega) 8 rfl, show (a : Int) % ((2 ^ 8 : Nat) : Int) = a by omega]
section SK
variable {f : Int → Int} {N z1 z2 X : Int} {sec : Option Int} {Y zd : Int} {c m c' m' : JM} {B B' : Int} {H : HT}

theorem t_idle (hf : f_ok f) {t : Int} (ht : 0 ≤ t ∧ t < 32) (h3 : c.1 8 t 2 = 3) (HH : r_h f N (-1) (-1) (-1) none (-1) (-1) c m) :
    r_h f N (-1) (-1) (-1) none (-1) (-1) (sI c 8 t 2 0) (sI m 154 0 t 0) := by
  have inj := hf.1
  have hlv : ∀ i, lv (sI c 8 t 2 0) i ↔ lv c i := fun i => by simp [lv, rI_I, rR_I]
  obtain ⟨h_st, h_sx, h_hm, h_sa, h_sb, h_gp, h_ky, h_k1, h_fw, h_fr, h_ce, h_an, h_zn, h_rw, h_la, h_lo, h_lr, h_wa, h_wo, h_wx, h_wr, h_w3, h_w4, h_w8, h_w9, h_w5, h_t1, h_t2, h_t3, h_t6, h_t9, h_ty, h_xx, h_zr⟩ := HH
  refine ⟨?_, ?_, ?_, ?_, ?_, ?_, ?_, ?_, ?_, ?_, ?_, ?_, ?_, ?_, ?_, ?_, ?_, ?_, ?_, ?_, ?_, ?_, ?_, ?_, ?_, ?_, ?_, ?_, ?_, ?_, ?_, ?_, ?_, ?_⟩
  · -- st
    simpa [d_st, hlv, rI_I, rI_L, rI_R, rL_I, rL_L, rL_R, rR_I, rR_L, rR_R] using h_st
  · -- sx
    simpa [d_sx, hlv, rI_I, rI_L, rI_R, rL_I, rL_L, rL_R, rR_I, rR_L, rR_R] using h_sx
  · -- hm
    simpa [d_hm, hlv, rI_I, rI_L, rI_R, rL_I, rL_L, rL_R, rR_I, rR_L, rR_R] using h_hm
  · -- sa
    simpa [d_sa, hlv, rI_I, rI_L, rI_R, rL_I, rL_L, rL_R, rR_I, rR_L, rR_R] using h_sa
  · -- sb
    simpa [d_sb, hlv, rI_I, rI_L, rI_R, rL_I, rL_L, rL_R, rR_I, rR_L, rR_R] using h_sb
  · -- gp
    simpa [d_gp, hlv, rI_I, rI_L, rI_R, rL_I, rL_L, rL_R, rR_I, rR_L, rR_R] using h_gp
  · -- ky
    simpa [d_ky, hlv, rI_I, rI_L, rI_R, rL_I, rL_L, rL_R, rR_I, rR_L, rR_R] using h_ky
  · -- k1
    simpa [d_k1, hlv, rI_I, rI_L, rI_R, rL_I, rL_L, rL_R, rR_I, rR_L, rR_R] using h_k1
  · -- fw
    simpa [d_fw, hlv, rI_I, rI_L, rI_R, rL_I, rL_L, rL_R, rR_I, rR_L, rR_R] using h_fw
  · -- fr
    simpa [d_fr, hlv, rI_I, rI_L, rI_R, rL_I, rL_L, rL_R, rR_I, rR_L, rR_R] using h_fr
  · -- ce
    simpa [d_ce, hlv, rI_I, rI_L, rI_R, rL_I, rL_L, rL_R, rR_I, rR_L, rR_R] using h_ce
  · -- an
    simpa [d_an, hlv, rI_I, rI_L, rI_R, rL_I, rL_L, rL_R, rR_I, rR_L, rR_R] using h_an
  · -- zn
    simpa [d_zn, hlv, rI_I, rI_L, rI_R, rL_I, rL_L, rL_R, rR_I, rR_L, rR_R] using h_zn
  · -- rw
    simpa [d_rw, hlv, rI_I, rI_L, rI_R, rL_I, rL_L, rL_R, rR_I, rR_L, rR_R] using h_rw
  · -- la
    simpa [d_la, hlv, rI_I, rI_L, rI_R, rL_I, rL_L, rL_R, rR_I, rR_L, rR_R] using h_la
  · -- lo
    simpa [d_lo, hlv, rI_I, rI_L, rI_R, rL_I, rL_L, rL_R, rR_I, rR_L, rR_R] using h_lo
  · -- lr
    simpa [d_lr, hlv, rI_I, rI_L, rI_R, rL_I, rL_L, rL_R, rR_I, rR_L, rR_R] using h_lr
  · -- wa
    simpa [d_wa, hlv, rI_I, rI_L, rI_R, rL_I, rL_L, rL_R, rR_I, rR_L, rR_R] using h_wa
  · -- wo
    simpa [d_wo, hlv, rI_I, rI_L, rI_R, rL_I, rL_L, rL_R, rR_I, rR_L, rR_R] using h_wo
  · -- wx
    simpa [d_wx, hlv, rI_I, rI_L, rI_R, rL_I, rL_L, rL_R, rR_I, rR_L, rR_R] using h_wx
  · -- wr
    simpa [d_wr, hlv, rI_I, rI_L, rI_R, rL_I, rL_L, rL_R, rR_I, rR_L, rR_R] using h_wr
  · -- w3
    simpa [d_w3, hlv, rI_I, rI_L, rI_R, rL_I, rL_L, rL_R, rR_I, rR_L, rR_R] using h_w3
  · -- w4
    simpa [d_w4, hlv, rI_I, rI_L, rI_R, rL_I, rL_L, rL_R, rR_I, rR_L, rR_R] using h_w4
  · -- w8
    simpa [d_w8, hlv, rI_I, rI_L, rI_R, rL_I, rL_L, rL_R, rR_I, rR_L, rR_R] using h_w8
  · -- w9
    simpa [d_w9, hlv, rI_I, rI_L, rI_R, rL_I, rL_L, rL_R, rR_I, rR_L, rR_R] using h_w9
  · -- w5
    simpa [d_w5, hlv, rI_I, rI_L, rI_R, rL_I, rL_L, rL_R, rR_I, rR_L, rR_R] using h_w5
  · -- t1
    simp only [d_t1, hlv, rI_I, rI_L, rI_R, rL_I, rL_L, rL_R, rR_I, rR_L, rR_R] at h_t1 ⊢; grind [rf, lv]
  · -- t2
    simpa [d_t2, hlv, rI_I, rI_L, rI_R, rL_I, rL_L, rL_R, rR_I, rR_L, rR_R] using h_t2
  · -- t3
    simp only [d_t3, hlv, rI_I, rI_L, rI_R, rL_I, rL_L, rL_R, rR_I, rR_L, rR_R] at h_t3 ⊢; grind [rf, lv]
  · -- t6
    simpa [d_t6, hlv, rI_I, rI_L, rI_R, rL_I, rL_L, rL_R, rR_I, rR_L, rR_R] using h_t6
  · -- t9
    simpa [d_t9, hlv, rI_I, rI_L, rI_R, rL_I, rL_L, rL_R, rR_I, rR_L, rR_R] using h_t9
  · -- ty
    intro z; omega
  · -- xx
    intro z; omega
  · -- zr
    simpa [d_zr, hlv, rI_I, rI_L, rI_R, rL_I, rL_L, rL_R, rR_I, rR_L, rR_R] using h_zr

theorem t_rel (hf : f_ok f) {id t : Int} (hv : lv c id) (ht : 0 ≤ t ∧ t < 32) (hq : c.2.2 8 t 3 = some id) (HH : r_h f N (-1) (-1) (-1) none (-1) (-1) c m) :
    r_h f N id (-1) (-1) none (-1) (-1) (sR (sI c 8 t 2 0) 8 t 3 none) (sI (sI m 154 0 t 0) 155 0 t (-1)) := by
  have inj := hf.1
  have hlv : ∀ i, lv (sR (sI c 8 t 2 0) 8 t 3 none) i ↔ lv c i := fun i => by simp [lv, rI_I, rR_I]
  obtain ⟨h_st, h_sx, h_hm, h_sa, h_sb, h_gp, h_ky, h_k1, h_fw, h_fr, h_ce, h_an, h_zn, h_rw, h_la, h_lo, h_lr, h_wa, h_wo, h_wx, h_wr, h_w3, h_w4, h_w8, h_w9, h_w5, h_t1, h_t2, h_t3, h_t6, h_t9, h_ty, h_xx, h_zr⟩ := HH
  refine ⟨?_, ?_, ?_, ?_, ?_, ?_, ?_, ?_, ?_, ?_, ?_, ?_, ?_, ?_, ?_, ?_, ?_, ?_, ?_, ?_, ?_, ?_, ?_, ?_, ?_, ?_, ?_, ?_, ?_, ?_, ?_, ?_, ?_, ?_⟩
  · -- st
    simpa [d_st, hlv, rI_I, rI_L, rI_R, rL_I, rL_L, rL_R, rR_I, rR_L, rR_R] using h_st
  · -- sx
    simpa [d_sx, hlv, rI_I, rI_L, rI_R, rL_I, rL_L, rL_R, rR_I, rR_L, rR_R] using h_sx
  · -- hm
    simpa [d_hm, hlv, rI_I, rI_L, rI_R, rL_I, rL_L, rL_R, rR_I, rR_L, rR_R] using h_hm
  · -- sa
    simpa [d_sa, hlv, rI_I, rI_L, rI_R, rL_I, rL_L, rL_R, rR_I, rR_L, rR_R] using h_sa
  · -- sb
    simpa [d_sb, hlv, rI_I, rI_L, rI_R, rL_I, rL_L, rL_R, rR_I, rR_L, rR_R] using h_sb
  · -- gp
    simpa [d_gp, hlv, rI_I, rI_L, rI_R, rL_I, rL_L, rL_R, rR_I, rR_L, rR_R] using h_gp
  · -- ky
    simpa [d_ky, hlv, rI_I, rI_L, rI_R, rL_I, rL_L, rL_R, rR_I, rR_L, rR_R] using h_ky
  · -- k1
    simpa [d_k1, hlv, rI_I, rI_L, rI_R, rL_I, rL_L, rL_R, rR_I, rR_L, rR_R] using h_k1
  · -- fw
    simpa [d_fw, hlv, rI_I, rI_L, rI_R, rL_I, rL_L, rL_R, rR_I, rR_L, rR_R] using h_fw
  · -- fr
    simpa [d_fr, hlv, rI_I, rI_L, rI_R, rL_I, rL_L, rL_R, rR_I, rR_L, rR_R] using h_fr
  · -- ce
    simpa [d_ce, hlv, rI_I, rI_L, rI_R, rL_I, rL_L, rL_R, rR_I, rR_L, rR_R] using h_ce
  · -- an
    simpa [d_an, hlv, rI_I, rI_L, rI_R, rL_I, rL_L, rL_R, rR_I, rR_L, rR_R] using h_an
  · -- zn
    simpa [d_zn, hlv, rI_I, rI_L, rI_R, rL_I, rL_L, rL_R, rR_I, rR_L, rR_R] using h_zn
  · -- rw
    simpa [d_rw, hlv, rI_I, rI_L, rI_R, rL_I, rL_L, rL_R, rR_I, rR_L, rR_R] using h_rw
  · -- la
    simpa [d_la, hlv, rI_I, rI_L, rI_R, rL_I, rL_L, rL_R, rR_I, rR_L, rR_R] using h_la
  · -- lo
    simpa [d_lo, hlv, rI_I, rI_L, rI_R, rL_I, rL_L, rL_R, rR_I, rR_L, rR_R] using h_lo
  · -- lr
    simpa [d_lr, hlv, rI_I, rI_L, rI_R, rL_I, rL_L, rL_R, rR_I, rR_L, rR_R] using h_lr
  · -- wa
    simpa [d_wa, hlv, rI_I, rI_L, rI_R, rL_I, rL_L, rL_R, rR_I, rR_L, rR_R] using h_wa
  · -- wo
    simpa [d_wo, hlv, rI_I, rI_L, rI_R, rL_I, rL_L, rL_R, rR_I, rR_L, rR_R] using h_wo
  · -- wx
    simpa [d_wx, hlv, rI_I, rI_L, rI_R, rL_I, rL_L, rL_R, rR_I, rR_L, rR_R] using h_wx
  · -- wr
    simpa [d_wr, hlv, rI_I, rI_L, rI_R, rL_I, rL_L, rL_R, rR_I, rR_L, rR_R] using h_wr
  · -- w3
    simpa [d_w3, hlv, rI_I, rI_L, rI_R, rL_I, rL_L, rL_R, rR_I, rR_L, rR_R] using h_w3
  · -- w4
    simp only [d_w4, hlv, rI_I, rI_L, rI_R, rL_I, rL_L, rL_R, rR_I, rR_L, rR_R] at h_w4 ⊢; grind [rf, lv]
  · -- w8
    simpa [d_w8, hlv, rI_I, rI_L, rI_R, rL_I, rL_L, rL_R, rR_I, rR_L, rR_R] using h_w8
  · -- w9
    simpa [d_w9, hlv, rI_I, rI_L, rI_R, rL_I, rL_L, rL_R, rR_I, rR_L, rR_R] using h_w9
  · -- w5
    simp only [d_w5, hlv, rI_I, rI_L, rI_R, rL_I, rL_L, rL_R, rR_I, rR_L, rR_R] at h_w5 ⊢; grind [rf, lv]
  · -- t1
    simp only [d_t1, hlv, rI_I, rI_L, rI_R, rL_I, rL_L, rL_R, rR_I, rR_L, rR_R] at h_t1 ⊢; grind [rf, lv]
  · -- t2
    simp only [d_t2, hlv, rI_I, rI_L, rI_R, rL_I, rL_L, rL_R, rR_I, rR_L, rR_R] at h_t2 ⊢; grind [rf, lv]
  · -- t3
    simp only [d_t3, hlv, rI_I, rI_L, rI_R, rL_I, rL_L, rL_R, rR_I, rR_L, rR_R] at h_t3 ⊢; grind [rf, lv]
  · -- t6
    simp only [d_t6, hlv, rI_I, rI_L, rI_R, rL_I, rL_L, rL_R, rR_I, rR_L, rR_R] at h_t6 ⊢; grind [rf, lv]
  · -- t9
    simpa [d_t9, hlv, rI_I, rI_L, rI_R, rL_I, rL_L, rL_R, rR_I, rR_L, rR_R] using h_t9
  · -- ty
    intro z; omega
  · -- xx
    intro z; omega
  · -- zr
    simpa [d_zr, hlv, rI_I, rI_L, rI_R, rL_I, rL_L, rL_R, rR_I, rR_L, rR_R] using h_zr

theorem t_coll (hf : f_ok f) {id t : Int} (hv : lv c id) (ht : 0 ≤ t ∧ t < 32) (o : c.1 8 t 2 = 1) (hq : c.2.2 8 t 3 = some id) (hs : c.1 0 id 9 = 1) (hb : c.2.2 0 id 4 = some t) (HH : r_h f N (-1) (-1) (-1) none (-1) id c m) :
    r_h f N (-1) (-1) (-1) none t id (sR (sR c 8 t 3 none) 0 id 4 none) (sI (sI (sI m 154 0 t 2) 155 0 t (-1)) 137 0 (f id) (-1)) := by
  have inj := hf.1
  have hlv : ∀ i, lv (sR (sR c 8 t 3 none) 0 id 4 none) i ↔ lv c i := fun i => by simp [lv, rI_I, rR_I]
  obtain ⟨h_st, h_sx, h_hm, h_sa, h_sb, h_gp, h_ky, h_k1, h_fw, h_fr, h_ce, h_an, h_zn, h_rw, h_la, h_lo, h_lr, h_wa, h_wo, h_wx, h_wr, h_w3, h_w4, h_w8, h_w9, h_w5, h_t1, h_t2, h_t3, h_t6, h_t9, h_ty, h_xx, h_zr⟩ := HH
  refine ⟨?_, ?_, ?_, ?_, ?_, ?_, ?_, ?_, ?_, ?_, ?_, ?_, ?_, ?_, ?_, ?_, ?_, ?_, ?_, ?_, ?_, ?_, ?_, ?_, ?_, ?_, ?_, ?_, ?_, ?_, ?_, ?_, ?_, ?_⟩
  · -- st
    simpa [d_st, hlv, rI_I, rI_L, rI_R, rL_I, rL_L, rL_R, rR_I, rR_L, rR_R] using h_st
  · -- sx
    simpa [d_sx, hlv, rI_I, rI_L, rI_R, rL_I, rL_L, rL_R, rR_I, rR_L, rR_R] using h_sx
  · -- hm
    simpa [d_hm, hlv, rI_I, rI_L, rI_R, rL_I, rL_L, rL_R, rR_I, rR_L, rR_R] using h_hm
  · -- sa
    simpa [d_sa, hlv, rI_I, rI_L, rI_R, rL_I, rL_L, rL_R, rR_I, rR_L, rR_R] using h_sa
  · -- sb
    simp only [d_sb, hlv, rI_I, rI_L, rI_R, rL_I, rL_L, rL_R, rR_I, rR_L, rR_R] at h_sb ⊢
    intro i a
    by_cases z : i = id
    · subst z
      rcases h_sb i a with ⟨q1, q2, q3, q4, q5⟩ | ⟨q1, q2, q3, q4, q5⟩ | ⟨q1, q2, q3, q4, q5, _⟩ | ⟨q1, q2, q3, q4, q5⟩ | ⟨q1, q2, q3, q4, q5⟩
      · rw [hb] at q3; cases q3
      · rw [hb] at q4; cases q4
      · exact Or.inl ⟨by simp, by simpa using q3, by simp, by simpa using q5, by omega⟩
      · rw [hb] at q4; cases q4
      · rw [hb] at q4; cases q4
    · have hne : f i ≠ f id := fun q => z (inj _ _ q)
      simpa [z, hne] using h_sb i a
  · -- gp
    simpa [d_gp, hlv, rI_I, rI_L, rI_R, rL_I, rL_L, rL_R, rR_I, rR_L, rR_R] using h_gp
  · -- ky
    simpa [d_ky, hlv, rI_I, rI_L, rI_R, rL_I, rL_L, rL_R, rR_I, rR_L, rR_R] using h_ky
  · -- k1
    simpa [d_k1, hlv, rI_I, rI_L, rI_R, rL_I, rL_L, rL_R, rR_I, rR_L, rR_R] using h_k1
  · -- fw
    simpa [d_fw, hlv, rI_I, rI_L, rI_R, rL_I, rL_L, rL_R, rR_I, rR_L, rR_R] using h_fw
  · -- fr
    simpa [d_fr, hlv, rI_I, rI_L, rI_R, rL_I, rL_L, rL_R, rR_I, rR_L, rR_R] using h_fr
  · -- ce
    simpa [d_ce, hlv, rI_I, rI_L, rI_R, rL_I, rL_L, rL_R, rR_I, rR_L, rR_R] using h_ce
  · -- an
    simpa [d_an, hlv, rI_I, rI_L, rI_R, rL_I, rL_L, rL_R, rR_I, rR_L, rR_R] using h_an
  · -- zn
    simpa [d_zn, hlv, rI_I, rI_L, rI_R, rL_I, rL_L, rL_R, rR_I, rR_L, rR_R] using h_zn
  · -- rw
    simpa [d_rw, hlv, rI_I, rI_L, rI_R, rL_I, rL_L, rL_R, rR_I, rR_L, rR_R] using h_rw
  · -- la
    simpa [d_la, hlv, rI_I, rI_L, rI_R, rL_I, rL_L, rL_R, rR_I, rR_L, rR_R] using h_la
  · -- lo
    simpa [d_lo, hlv, rI_I, rI_L, rI_R, rL_I, rL_L, rL_R, rR_I, rR_L, rR_R] using h_lo
  · -- lr
    simpa [d_lr, hlv, rI_I, rI_L, rI_R, rL_I, rL_L, rL_R, rR_I, rR_L, rR_R] using h_lr
  · -- wa
    simpa [d_wa, hlv, rI_I, rI_L, rI_R, rL_I, rL_L, rL_R, rR_I, rR_L, rR_R] using h_wa
  · -- wo
    simpa [d_wo, hlv, rI_I, rI_L, rI_R, rL_I, rL_L, rL_R, rR_I, rR_L, rR_R] using h_wo
  · -- wx
    simpa [d_wx, hlv, rI_I, rI_L, rI_R, rL_I, rL_L, rL_R, rR_I, rR_L, rR_R] using h_wx
  · -- wr
    simpa [d_wr, hlv, rI_I, rI_L, rI_R, rL_I, rL_L, rL_R, rR_I, rR_L, rR_R] using h_wr
  · -- w3
    simpa [d_w3, hlv, rI_I, rI_L, rI_R, rL_I, rL_L, rL_R, rR_I, rR_L, rR_R] using h_w3
  · -- w4
    simpa [d_w4, hlv, rI_I, rI_L, rI_R, rL_I, rL_L, rL_R, rR_I, rR_L, rR_R] using h_w4
  · -- w8
    simpa [d_w8, hlv, rI_I, rI_L, rI_R, rL_I, rL_L, rL_R, rR_I, rR_L, rR_R] using h_w8
  · -- w9
    simpa [d_w9, hlv, rI_I, rI_L, rI_R, rL_I, rL_L, rL_R, rR_I, rR_L, rR_R] using h_w9
  · -- w5
    simpa [d_w5, hlv, rI_I, rI_L, rI_R, rL_I, rL_L, rL_R, rR_I, rR_L, rR_R] using h_w5
  · -- t1
    simp only [d_t1, hlv, rI_I, rI_L, rI_R, rL_I, rL_L, rL_R, rR_I, rR_L, rR_R] at h_t1 ⊢; grind [rf, lv]
  · -- t2
    simp only [d_t2, hlv, rI_I, rI_L, rI_R, rL_I, rL_L, rL_R, rR_I, rR_L, rR_R] at h_t2 ⊢; grind [rf, lv]
  · -- t3
    simp only [d_t3, hlv, rI_I, rI_L, rI_R, rL_I, rL_L, rL_R, rR_I, rR_L, rR_R] at h_t3 ⊢; grind [rf, lv]
  · -- t6
    simp only [d_t6, d_t9, hlv, rI_I, rI_L, rI_R, rL_I, rL_L, rL_R, rR_I, rR_L, rR_R] at h_t6 h_t9 ⊢; grind [rf, lv]
  · -- t9
    simp only [d_t9, hlv, rI_I, rI_L, rI_R, rL_I, rL_L, rL_R, rR_I, rR_L, rR_R] at h_t9 ⊢; grind [rf, lv]
  · -- ty
    intro z; refine ⟨ht.2, ?_, ?_, ?_⟩
    · simpa [rI_I, rR_I] using o
    · simp [rR_R]
    · simp [rI_I]
  · -- xx
    intro z; omega
  · -- zr
    simpa [d_zr, hlv, rI_I, rI_L, rI_R, rL_I, rL_L, rL_R, rR_I, rR_L, rR_R] using h_zr


theorem k_cr {e k : Int} (he : e = 0 ∨ e = 1) (hk : 0 ≤ k ∧ k < N) (K : r_k N c m) : 0 ≤ 16 * e + k ∧ 16 * e + k < 32 ∧ c.1 8 (16 * e + k) 0 = k := by
  have h1 := K.2.2.2.1
  have h2 := (K.2.2.2.2.2.2.2.2.2.2.2.2 e k he hk.1 hk.2).1
  exact ⟨by omega, by omega, h2⟩
/-- who holds a circuit that went out -/
theorem k_out {t : Int} (ht : 0 ≤ t ∧ t < 32) (o : c.1 8 t 2 = 1) (R : relN f N B H c m) : ∃ i, c.2.2 8 t 3 = some i ∧ lv c i ∧ c.2.2 0 i 4 = some t ∧ m.1 155 0 t = f i ∧ m.1 133 0 (f i) = c.1 0 i 9 ∧ m.1 137 0 (f i) < 200 ∧ c.2.2 0 i 3 = none := by
  have b2 := R.2.2.1.2.2.2.2.2.2.2.2.2.2.2.2.2.2.2.2.2.2.2.2.2.2.2.2.2.2.2.1 t ht.1 ht.2
  rcases R.2.2.1.2.2.2.2.2.2.2.2.2.2.2.2.2.2.2.2.2.2.2.2.2.2.2.2.2.2.2.2.1 t ht.1 ht.2 (by omega) with ⟨a, _⟩ | ⟨i, q1, q2, ⟨_, q3⟩ | ⟨q3, _⟩⟩
  · omega
  · refine ⟨i, q1, q2, q3, by rw [b2, q1]; rfl, (R.2.2.1.1 i q2.1 q2.2.1).1, ?_, ?_⟩
    · have hN := R.1.2.2.2.1
      rcases R.2.2.1.2.2.2.2.1 i q2 with ⟨_, _, a, _⟩ | ⟨_, _, _, a, _⟩ | ⟨_, a, _⟩ | ⟨_, _, _, a, _⟩ | ⟨_, _, _, a, _⟩
      · rw [q3] at a; cases a
      · rw [q3] at a; cases a
      · omega
      · rw [q3] at a; cases a
      · rw [q3] at a; cases a
    · rcases R.2.2.1.2.2.2.2.1 i q2 with ⟨_, _, a, _⟩ | ⟨_, _, _, a, _⟩ | ⟨_, _, a, _⟩ | ⟨_, _, _, a, _⟩ | ⟨_, _, _, a, _⟩
      · rw [q3] at a; cases a
      · rw [q3] at a; cases a
      · exact a
      · rw [q3] at a; cases a
      · rw [q3] at a; cases a
  · omega
theorem p_acm {e k x : Int} (hf : f_ok f) (hB : B + 30 < 2000000000) (he : e = 0 ∨ e = 1) (hk : 0 ≤ k ∧ k < N) (hx : F9_typeOf x c = some (2, c)) (h1 : m.1 168 0 1 = 2) (R : relN f N B H c m) :
    ∃ c' m', F11_takeSignal (some e) (some (16 * e + k)) x c = some c' ∧ F12_comes_44 e (16 * e + k) (m.1 155 0 (16 * e + k)) (if m.1 154 0 (16 * e + k) = 1 then 1 else 0) m = some m' ∧ relN f N (B + 10) H c' m' ∧ so w_C c c' ∧ so w_M m m' := by
  obtain ⟨t0, t1, t2⟩ := k_cr he hk R.1
  generalize 16 * e + k = t at *
  have b1 := R.2.2.1.2.2.2.2.2.2.2.2.2.2.2.2.2.2.2.2.2.2.2.2.2.2.2.2.2.2.1 t t0 t1 (by omega)
  have hnow : m.1 12 0 2 = c.1 11 0 10 := R.1.2.2.2.2.2.2.2.1
  unfold F11_takeSignal F12_comes_44
  rw [Option.bind_some, hx, Option.bind_some, g_t (by omega), h1]
  dsimp only
  simp only [Int.reduceEq, ↓reduceIte]
  by_cases o : c.1 8 t 2 = 1
  · obtain ⟨i, q1, q2, q3, q4, q5, q6, q7⟩ := k_out ⟨t0, t1⟩ o R
    have hfr := hf.2.2.1 i q2.1 (by have := q2.2.1; omega)
    rw [if_pos o, b1, if_pos o, if_neg (by decide), q4, g_t hfr, q5]
    unfold F8_isSent F8_isSent_22
    rw [q1, if_neg (by simp), Option.bind_some]
    by_cases s : c.1 0 i 9 = 1
    · rw [if_pos s, if_pos s, Option.bind_some, if_neg (by simp)]
      have Rz := rel_zn R i
      have tk := t_ackT (id := i) (t := t) (nw := c.1 11 0 10) hf q2 s q3 Rz.2.2.1
      have sc : so w_h c (sI (sI c 0 i 9 2) 0 i 10 (c.1 11 0 10)) := so_I (so_I (so_rfl c) rfl _ _) rfl _ _
      have sm : so w_hm m (sI (sI m 133 0 (f i) 2) 145 0 (f i) (c.1 11 0 10)) := so_I (so_I (so_rfl m) rfl _ _) rfl _ _
      have R1 := rel_h hf Rz tk sc sm (fun n => by
        by_cases z : n = i
        · subst z; simp [rI_I, rI_R, s]
        · simp [rI_I, rI_R, z]) (fun u _ _ => by
        by_cases z : u = f i
        · subst z; simp [rI_I, q5, s]
        · simp [rI_I, z])
      have v1 : lv (sI (sI c 0 i 9 2) 0 i 10 (c.1 11 0 10)) i := ⟨q2.1, q2.2.1, by simp [rI_I]⟩
      have ky := R.2.2.1.2.2.2.2.2.2.1 i q2 (by have := q2.1; omega)
      have k1 := R.2.2.1.2.2.2.2.2.2.2.1 i q2 (by have := q2.1; omega)
      have gp := R.2.2.1.2.2.2.2.2.1 i q2
      obtain ⟨c', m', p1, p2, p3, p4, p5⟩ := p_fin hf (by omega) v1 R1 (by simpa [rI_I, rI_L] using ky) ⟨by simp [rI_I], by simpa [rI_I] using k1.2⟩ (fun a b => by
        rw [rI_R, rI_R]
        rcases gp with ⟨_, g⟩ | ⟨_, _, g, _⟩
        · exact g (by omega) (by have := q2.1; omega)
        · omega) (by simp [rI_I])
      refine ⟨c', m', ?_, ?_, rel_mono (by omega) p3, so_tr (rw_C sc) p4, so_tr (rw_M sm) p5⟩
      · unfold F11_enter
        rw [Option.bind_some]
        simp only [lt_d]
        rw [Option.bind_some, rI_o (by omega), p1, Option.bind_some]
      · unfold F12_becomes
        simp only [g_t hfr, lt_d]
        rw [Option.bind_some, rI_o (by omega), hnow, p2, Option.bind_some]
    · rw [if_neg s, if_neg s, Option.bind_some, if_pos rfl]
      exact ⟨c, m, rfl, rfl, rel_mono (by omega) R, so_rfl c, so_rfl m⟩
  · rw [if_neg o, b1, if_neg o, if_pos rfl]
    exact ⟨c, m, rfl, rfl, rel_mono (by omega) R, so_rfl c, so_rfl m⟩
theorem p_anm {e k x : Int} (hf : f_ok f) (hB : B + 30 < 2000000000) (he : e = 0 ∨ e = 1) (hk : 0 ≤ k ∧ k < N) (hx : F9_typeOf x c = some (3, c)) (h1 : m.1 168 0 1 = 3) (R : relN f N B H c m) :
    ∃ c' m', F11_takeSignal (some e) (some (16 * e + k)) x c = some c' ∧ F12_comes_44 e (16 * e + k) (m.1 155 0 (16 * e + k)) (if m.1 154 0 (16 * e + k) = 1 then 1 else 0) m = some m' ∧ relN f N (B + 10) H c' m' ∧ so w_C c c' ∧ so w_M m m' := by
  obtain ⟨t0, t1, t2⟩ := k_cr he hk R.1
  generalize 16 * e + k = t at *
  have b1 := R.2.2.1.2.2.2.2.2.2.2.2.2.2.2.2.2.2.2.2.2.2.2.2.2.2.2.2.2.2.1 t t0 t1 (by omega)
  have hnow : m.1 12 0 2 = c.1 11 0 10 := R.1.2.2.2.2.2.2.2.1
  unfold F11_takeSignal F12_comes_44
  rw [Option.bind_some, hx, Option.bind_some, g_t (by omega), h1]
  dsimp only
  simp only [Int.reduceEq, ↓reduceIte]
  by_cases o : c.1 8 t 2 = 1
  · obtain ⟨i, q1, q2, q3, q4, q5, q6, q7⟩ := k_out ⟨t0, t1⟩ o R
    have hfr := hf.2.2.1 i q2.1 (by have := q2.2.1; omega)
    rw [if_pos o, q1, if_neg (by simp), Option.bind_some, b1, if_pos o, if_neg (show ¬ ((1 : Int) = 0) by decide), q4, g_t hfr, g_t hfr, q5]
    by_cases s : c.1 0 i 9 = 1 ∨ c.1 0 i 9 = 2
    · have tk := t_talkT (id := i) (t := t) (nw := c.1 11 0 10) hf q2 s q3 R.2.2.1
      have eM : m_talk m (f i) = sI (sI (sI (sI m 133 0 (f i) 3) 145 0 (f i) (c.1 11 0 10)) 138 0 (f i) (-1)) 146 0 (f i) (c.1 11 0 10) := by unfold m_talk; rw [hnow]
      have RT : relN f N B H (c_talk c i) (m_talk m (f i)) := by
        rw [eM]
        unfold c_talk
        refine rel_h hf R tk (so_I (so_I (so_rfl c) rfl _ _) rfl _ _) (so_I (so_I (so_I (so_I (so_rfl m) rfl _ _) rfl _ _) rfl _ _) rfl _ _) (k4_talk (id := i) s (fun n => ?_) (fun n => ?_) (fun n => ?_)) (k3_talk (s := f i) (by omega) q6 (fun j => ?_) (fun j => ?_) (fun j => ?_))
        · simp [rI_I]
        · simp [rI_R]
        · simp [rI_I]
        · simp [rI_I]
        · simp [rI_I]
        · simp [rI_I]
      obtain ⟨c', m', p1, p2, p3, p4, p5⟩ := p_aif hf (by omega) ⟨q2.1, q2.2.1⟩ RT
      have ec : (if c.1 0 i 9 = 1 then F11_takeSignal_102 (some i) c else if c.1 0 i 9 = 2 then F11_takeSignal_102 (some i) c else some c) = some c' := by
        have : F11_takeSignal_102 (some i) c = some c' := by unfold F11_takeSignal_102; exact p1
        rcases s with s | s
        · rw [if_pos s, this]
        · rw [if_neg (by omega), if_pos s, this]
      have em : (if c.1 0 i 9 = 1 then F12_comes_224 (f i) m else if c.1 0 i 9 = 2 then F12_comes_224 (f i) m else some m) = some m' := by
        have : F12_comes_224 (f i) m = some m' := by unfold F12_comes_224; rw [p2, Option.bind_some]
        rcases s with s | s
        · rw [if_pos s, this]
        · rw [if_neg (by omega), if_pos s, this]
      exact ⟨c', m', ec, em, rel_mono (by omega) p3, p4, p5⟩
    · rw [if_neg (by omega), if_neg (by omega), if_neg (by omega), if_neg (by omega)]
      exact ⟨c, m, rfl, rfl, rel_mono (by omega) R, so_rfl c, so_rfl m⟩
  · rw [if_neg o, b1, if_neg o, if_pos rfl]
    exact ⟨c, m, rfl, rfl, rel_mono (by omega) R, so_rfl c, so_rfl m⟩
theorem p_rlc {e k x : Int} (hf : f_ok f) (he : e = 0 ∨ e = 1) (hk : 0 ≤ k ∧ k < N) (hx : F9_typeOf x c = some (5, c)) (h1 : m.1 168 0 1 = 5) (R : relN f N B H c m) :
    ∃ c' m', F11_takeSignal (some e) (some (16 * e + k)) x c = some c' ∧ F12_comes_44 e (16 * e + k) (m.1 155 0 (16 * e + k)) (if m.1 154 0 (16 * e + k) = 1 then 1 else 0) m = some m' ∧ relN f N (B + 10) H c' m' ∧ so w_C c c' ∧ so w_M m m' := by
  obtain ⟨t0, t1, t2⟩ := k_cr he hk R.1
  generalize 16 * e + k = t at *
  have b1 := R.2.2.1.2.2.2.2.2.2.2.2.2.2.2.2.2.2.2.2.2.2.2.2.2.2.2.2.2.2.1 t t0 t1 (by omega)
  unfold F11_takeSignal F12_comes_44
  rw [Option.bind_some, hx, Option.bind_some, g_t (by omega), h1]
  dsimp only
  simp only [Int.reduceEq, ↓reduceIte]
  rw [g_t ⟨t0, t1⟩, b1]
  by_cases o : c.1 8 t 2 = 3
  · rw [if_pos o, if_pos o, g_t ⟨t0, t1⟩]
    refine ⟨_, _, rfl, rfl, rel_mono (by omega) (rel_h hf R (t_idle hf ⟨t0, t1⟩ o R.2.2.1) (so_I (so_rfl c) rfl _ _) (so_I (so_rfl m) rfl _ _) (fun n => ?_) (fun s _ _ => ?_)), so_I (so_rfl c) rfl _ _, so_I (so_rfl m) rfl _ _⟩
    · simp [rI_I, rI_R]
    · simp [rI_I]
  · rw [if_neg o, if_neg o]
    exact ⟨c, m, rfl, rfl, rel_mono (by omega) R, so_rfl c, so_rfl m⟩
theorem p_rel {e k x why : Int} (hf : f_ok f) (hB : B + 30 < 2000000000) (he : e = 0 ∨ e = 1) (hk : 0 ≤ k ∧ k < N) (hx : F9_typeOf x c = some (4, c)) (hw : F9_causeOf x c = some (why, c)) (hw2 : 0 ≤ why ∧ why < 256) (h0 : m.1 168 0 0 = k) (h1 : m.1 168 0 1 = 4) (h2 : m.1 168 0 2 = why) (R : relN f N B H c m) :
    ∃ c' m', F11_takeSignal (some e) (some (16 * e + k)) x c = some c' ∧ F12_comes_44 e (16 * e + k) (m.1 155 0 (16 * e + k)) (if m.1 154 0 (16 * e + k) = 1 then 1 else 0) m = some m' ∧ relN f N (B + 10) H c' m' ∧ so w_C c c' ∧ so w_M m m' := by
  obtain ⟨t0, t1, t2⟩ := k_cr he hk R.1
  obtain ⟨t, ht⟩ : ∃ t, t = 16 * e + k := ⟨_, rfl⟩
  rw [← ht] at t0 t1 t2 ⊢
  have hN := R.1.2.2.2.1
  have b1 := R.2.2.1.2.2.2.2.2.2.2.2.2.2.2.2.2.2.2.2.2.2.2.2.2.2.2.2.2.2.1 t t0 t1 (by omega)
  have b2 := R.2.2.1.2.2.2.2.2.2.2.2.2.2.2.2.2.2.2.2.2.2.2.2.2.2.2.2.2.2.2.1 t t0 t1
  have b3 := R.2.2.1.2.2.2.2.2.2.2.2.2.2.2.2.2.2.2.2.2.2.2.2.2.2.2.2.2.2.2.2.1 t t0 t1 (by omega)
  unfold F11_takeSignal F12_comes_44 F11_takeRelease
  rw [Option.bind_some, hx, Option.bind_some, g_t (by omega), h1]
  dsimp only
  simp only [Int.reduceEq, ↓reduceIte]
  rw [hw, Option.bind_some, Option.bind_some, g_t ⟨t0, t1⟩, b1]
  dsimp only
  by_cases o : c.1 8 t 2 = 0
  · rw [if_pos o, if_pos o]
    exact ⟨c, m, rfl, rfl, rel_mono (by omega) R, so_rfl c, so_rfl m⟩
  · obtain ⟨y, c1, m1, mb, p1, p2, p3, p4, p5, p6, p7, p8⟩ := w_post2 5 (Or.inr (Or.inr rfl)) (B := B) (by omega) he (k := k) ⟨hk.1, by omega⟩ R.2.2.2.1
    rw [show ((5 : Nat) : Int) = 5 from rfl] at p1 p3
    have R1 := rel_post hf R p7 p8 (by omega) p6
    have c8 : ∀ j, c1.1 8 t j = c.1 8 t j ∧ c1.2.2 8 t j = c.2.2 8 t j := fun j => ⟨(p7 8 t j rfl).1, (p7 8 t j rfl).2.2⟩
    rw [if_neg o, if_neg o, Option.bind_some, t2, p1, Option.bind_some, g_t (by omega), lt_d, g_t (by omega), lt_d, h0, h2, p3, Option.bind_some, p5, Option.bind_some]
    dsimp only
    rw [p2, Option.bind_some, (c8 2).1, (c8 3).2, g_t ⟨t0, t1⟩, (p8 154 0 t rfl).1, b1]
    have scp : so w_C c c1 := so_mono w_b3 p7
    have smp : so w_M m m1 := so_mono w_b4 p8
    by_cases o3 : c.1 8 t 2 = 3
    · rw [if_pos o3, if_pos o3, Option.bind_some]
      exact ⟨c1, m1, rfl, rfl, rel_mono (by omega) R1, scp, smp⟩
    · rcases b3 with ⟨a, _⟩ | ⟨i, q1, q2, q3⟩
      · omega
      · have v1 : lv c1 i := ⟨q2.1, q2.2.1, by rw [(p7 0 i 9 rfl).1]; exact q2.2.2⟩
        have tr := t_rel (id := i) (t := t) hf v1 ⟨t0, t1⟩ (by rw [(c8 3).2]; exact q1) R1.2.2.1
        have R2 : rel f N i (-1) (-1) none (-1) (-1) (B + 1) H (sR (sI c1 8 t 2 0) 8 t 3 none) (sI (sI m1 154 0 t 0) 155 0 t (-1)) := rel_h hf R1 tr (so_R (so_I (so_rfl c1) rfl _ _) rfl _ _) (so_I (so_I (so_rfl m1) rfl _ _) rfl _ _) (fun n => by simp [rI_I, rI_R, rR_I, rR_R]) (fun s _ _ => by simp [rI_I])
        have hr0 : ∀ j, c1.2.2 0 i j = c.2.2 0 i j := fun j => (p7 0 i j rfl).2.2
        have b_hm := R1.2.2.1.2.2.1 i v1
        have b_sa := R1.2.2.1.2.2.2.1 i v1
        have b_sb := R1.2.2.1.2.2.2.2.1 i v1
        have b_t6 := R1.2.2.1.2.2.2.2.2.2.2.2.2.2.2.2.2.2.2.2.2.2.2.2.2.2.2.2.2.2.2.2.2.1 i
        have b_t9 := R1.2.2.1.2.2.2.2.2.2.2.2.2.2.2.2.2.2.2.2.2.2.2.2.2.2.2.2.2.2.2.2.2.2.1 i
        have v2 : lv (sR (sI c1 8 t 2 0) 8 t 3 none) i := ⟨v1.1, v1.2.1, by rw [rR_I, rI_o (by omega)]; exact v1.2.2⟩
        have n12 : (1 : Int) ≠ 2 := by decide
        have hA : c1.2.2 0 i 2 = some t → c1.2.2 0 i 1 = none ∧ m1.1 136 0 (f i) = 100 + k := fun q => by
          rcases b_sa with ⟨_, a2, _⟩ | ⟨a1, a2, a3, a4⟩
          · rw [q] at a2; cases a2
          · rw [q] at a2
            have a5 : t = 16 * m1.1 135 0 (f i) + m1.1 136 0 (f i) - 100 := by injection a2
            exact ⟨a1, by omega⟩
        have hBB : c1.2.2 0 i 4 = some t → c1.2.2 0 i 3 = none ∧ m1.1 137 0 (f i) = 100 + k := fun q => by
          rcases b_sb with ⟨_, _, a, _⟩ | ⟨_, _, _, a, _⟩ | ⟨a1, a2, a3, a4, _⟩ | ⟨_, _, _, a, _⟩ | ⟨_, _, _, a, _⟩
          · rw [q] at a; cases a
          · rw [q] at a; cases a
          · rw [q] at a4
            have a5 : t = 16 * m1.1 135 0 (f i) + m1.1 137 0 (f i) - 100 := by injection a4
            exact ⟨a3, by omega⟩
          · rw [q] at a; cases a
          · rw [q] at a; cases a
        have hs : c1.2.2 0 i 2 = some t ∨ c1.2.2 0 i 4 = some t := by
          rw [hr0, hr0]
          rcases q3 with ⟨_, w⟩ | ⟨_, w⟩
          · exact Or.inr w
          · exact Or.inl w
        have wk : w32 (100 + k) = 100 + k := w32_of (by omega) (by omega)
        obtain ⟨c', m', e1, e2, e3, e4, e5, e6⟩ := p_end (why := why) (w := if c1.2.2 0 i 2 = some t then 1 else 2) (w' := 100 + k) hf (by omega) (-1) hw2 v2 R2 (by simp)
          (by
            by_cases y : c1.2.2 0 i 2 = some t
            · rw [if_pos y, rI_o (by omega), rI_o (by omega), (hA y).2]; exact Or.inr (Or.inl ⟨rfl, rfl⟩)
            · rw [if_neg y, rI_o (k' := 137) (by omega), rI_o (k' := 137) (by omega), (hBB (hs.resolve_left y)).2]; exact Or.inr (Or.inr ⟨rfl, rfl⟩))
          (fun _ => by
            rw [rR_R, if_neg (by omega), rI_R]
            rcases b_sa with ⟨a, _⟩ | ⟨a, _⟩ <;> rw [a] <;> simp <;> omega)
          (fun _ => by
            rw [rR_R, if_neg (by omega), rI_R]
            rcases b_sb with ⟨_, a, _⟩ | ⟨_, _, a, _⟩ | ⟨_, _, a, _⟩ | ⟨_, _, a, _⟩ | ⟨_, _, a, _⟩ <;> rw [a] <;> simp <;> omega)
          (fun z u q => by
            rw [rR_R, if_neg (by omega), rI_R] at q
            have hne : u ≠ t := fun w => z (by rw [if_pos (by rw [q, w])])
            rw [rR_R, if_neg (by omega), rI_R]
            exact b_t6 u v1 (by have := v1.1; omega) (by have := v1.1; omega) (Or.inl q))
          (fun z u q => by
            rw [rR_R, if_neg (by omega), rI_R] at q
            have hne : u ≠ t := fun w => by
              by_cases y : c1.2.2 0 i 2 = some t
              · exact b_t9 t v1 y (by rw [q, w])
              · exact z (by rw [if_neg y])
            rw [rR_R, if_neg (by omega), rI_R]
            exact b_t6 u v1 (by have := v1.1; omega) (by have := v1.1; omega) (Or.inr q))
          (fun z => by
            have y : c1.2.2 0 i 2 = some t := by
              by_cases y : c1.2.2 0 i 2 = some t
              · exact y
              · rw [if_neg y] at z; omega
            refine ⟨fun x j q => ?_, fun u q => ?_⟩
            · rw [rR_R, if_neg (by omega), rI_R, (hA y).1] at q; cases q
            · rw [rR_R, if_neg (by omega), rI_R, y] at q
              cases q
              rw [rR_R, if_pos ⟨rfl, rfl, rfl⟩]; simp)
          (fun z => by
            have y : ¬ c1.2.2 0 i 2 = some t := fun y => by rw [if_pos y] at z; omega
            have y2 := hs.resolve_left y
            refine ⟨fun x j q => ?_, fun u q => ?_⟩
            · rw [rR_R, if_neg (by omega), rI_R, (hBB y2).1] at q; cases q
            · rw [rR_R, if_neg (by omega), rI_R, y2] at q
              cases q
              rw [rR_R, if_pos ⟨rfl, rfl, rfl⟩]; simp)
        refine ⟨c', m', ?_, ?_, rel_mono (by omega) e3, so_tr scp (so_tr (so_R (so_I (so_rfl c1) rfl _ _) rfl _ _) (so_mono w_b5 e4)), so_tr smp (so_tr (so_I (so_I (so_rfl m1) rfl _ _) rfl _ _) (so_mono w_b6 e5))⟩
        · rw [if_neg o3]
          simp only [lt_d]
          rw [q1, if_neg (by simp), Option.bind_some, show (sR (sI c1 8 t 2 0) 8 t 3 none).2.2 0 i 2 = c1.2.2 0 i 2 by rw [rR_R, if_neg (by omega)]; rfl]
          by_cases y : c1.2.2 0 i 2 = some t
          · rw [if_pos y] at e1 ⊢
            unfold F11_takeRelease_72
            rw [Option.bind_some, g_t rfl, e1, Option.bind_some, Option.bind_some]
          · rw [if_neg y] at e1 ⊢
            unfold F11_takeRelease_72
            rw [Option.bind_some, g_t rfl, e1, Option.bind_some, Option.bind_some]
        · rw [if_neg o3]
          simp only [g_t (show 0 ≤ t ∧ t < 32 from ⟨t0, t1⟩), lt_d]
          rw [b2, q1, show rf f (some i) = f i from rfl, wk, e2, Option.bind_some]
end SK
