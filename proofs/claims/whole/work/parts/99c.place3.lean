/-! ===== placing: rooms, and all rows ===== -/
section RT
variable {f : Int → Int} {N z1 z2 X : Int} {sec : Option Int} {Y zd : Int} {c m c' m' : JM} {B B' : Int} {H : HT}
/-- a row to a room -/
theorem p_room (hf : f_ok f) (hB : B + 30 < 2000000000) {id r : Int} (P : plc f N (-1) B H id c m) (hzn : c.2.2 0 id 1 ≠ none → m.1 143 0 (f id) = c.1 0 id 11 ∧ 0 ≤ c.1 0 id 11 ∧ c.1 0 id 11 ≤ 3) (hr : r = 0 ∨ r = 1) :
    ∃ out c1, F11_placeToRoom (some id) r c = some (out, c1) ∧
      ((out = 2 ∧ c1 = c ∧ F12_toRoom (f id) r m = (F12_over (f id) 2 (-1) m).bind (fun h => some h)) ∨
       (out = -3 ∧ ∃ v c2 c' m', F11_answer (some id) c1 = some (v, c2) ∧ ((v = 0 ∧ c' = c2) ∨ (v = 5 ∧ F11_end (some id) 5 0 c2 = some c')) ∧ F12_toRoom (f id) r m = some m' ∧ relN f N (B + 5) H c' m' ∧ so w_C c c' ∧ so w_M m m')) := by
  obtain ⟨R, hv, h7, hg, hky, hfw⟩ := P
  have hfr := hf.2.2.1 id hv.1 (by have := hv.2.1; omega)
  have b_hm := R.2.2.1.2.2.1 id hv
  have b_st := R.2.2.1.1 id hv.1 hv.2.1
  obtain ⟨s1, s2, s3, s4⟩ := sd_of hv R h7
  have hnow : m.1 12 0 2 = c.1 11 0 10 := R.1.2.2.2.2.2.2.2.1
  obtain ⟨rr1, rr2, rr3⟩ := R.2.2.2.2.2.1
  generalize he : m.1 135 0 (f id) = e at *
  have h1 := rr1 e r b_hm.2 hr
  have h8 := rr3 e r b_hm.2 hr
  have hb := cn_b (fun s => decide (m.1 133 0 s = 3 ∧ m.1 135 0 s = e ∧ m.1 137 0 s = 200 + r)) 80
  have h0 : 0 ≤ c.1 23 e r := by rw [h1]; exact hb.1
  have r2 : 0 ≤ r ∧ r < 2 := by omega
  unfold F11_placeToRoom F12_toRoom
  rw [Option.bind_some, b_hm.1, Option.bind_some, g_t r2, g_t hfr, he, f_inRoom hr, Option.bind_some]
  dsimp only
  rw [← h1]
  by_cases z : c.1 23 e r < 8
  · rw [if_pos z, if_neg (by omega), lt_d, rI_R, b_hm.1, Option.bind_some, g_t r2, g_t r2, lt_d, g_t hfr, lt_d]
    have x1 : w32 (200 + r) = 200 + r := w32_of (by omega) (by omega)
    have x2 : (sI c 0 id 6 r).1 23 e r = c.1 23 e r := by rw [rI_o (by omega)]
    rw [x1, x2, w32_of (by omega) (by omega)]
    generalize hC : sI (sI c 0 id 6 r) 23 e r (c.1 23 e r + 1) = C
    have t := t_room (r := r) (nw := c.1 11 0 10) hf hv ⟨s1, s2, s3, by omega⟩ hzn hr R.2.2.1
    have CT : c_talk C id = sI (sI (sI (sI c 0 id 6 r) 23 e r (c.1 23 e r + 1)) 0 id 9 3) 0 id 10 (c.1 11 0 10) := by
      unfold c_talk
      rw [← hC]
      simp [rI_I]
    have MT : m_talk (sI m 137 0 (f id) (200 + r)) (f id) = sI (sI (sI (sI (sI m 137 0 (f id) (200 + r)) 133 0 (f id) 3) 145 0 (f id) (c.1 11 0 10)) 138 0 (f id) (-1)) 146 0 (f id) (c.1 11 0 10) := by
      unfold m_talk
      simp [rI_I, hnow]
    have sc : so w_x c (c_talk C id) := by rw [CT]; exact so_I (so_I (so_I (so_I (so_rfl c) rfl _ _) rfl _ _) rfl _ _) rfl _ _
    have sm : so w_xm m (m_talk (sI m 137 0 (f id) (200 + r)) (f id)) := by rw [MT]; exact so_I (so_I (so_I (so_I (so_I (so_rfl m) rfl _ _) rfl _ _) rfl _ _) rfl _ _) rfl _ _
    have I9 : ∀ n, (c_talk C id).1 0 n 9 = if n = id then 3 else c.1 0 n 9 := fun n => by rw [CT]; simp [rI_I]
    have R2 : relN f N B H (c_talk C id) (m_talk (sI m 137 0 (f id) (200 + r)) (f id)) := by
      have R1 : rel f N (-1) (-1) (-1) none (-1) id B H (c_talk C id) (m_talk (sI m 137 0 (f id) (200 + r)) (f id)) := by
        refine rel_mk (Int.le_refl B) R sc sm ?_ ?_ ?_ ?_
        · rw [CT, MT]
          refine r_h_cg (fun k n j hk => ?_) (fun k n j hk => rfl) t
          have : k ≠ 23 := fun z => by rw [z] at hk; cases hk
          refine ⟨?_, rfl, rfl⟩
          simp only [rI_I]
          simp [this]
        · refine q_cg R.2.2.2.2.1 (fun n => ?_) hf (fun n j => by rw [CT]; simp [rI_I]) (fun n j => by rw [CT]; rfl) (fun k j a b => by rw [MT]; simp only [rI_I]; rw [if_neg (by omega), if_neg (by omega), if_neg (by omega), if_neg (by omega), if_neg (by omega)])
          · rw [I9]
            have e5 : (c_talk C id).2.2 0 n 5 = c.2.2 0 n 5 := by rw [CT]; rfl
            have e14 : (c_talk C id).1 0 n 14 = c.1 0 n 14 := by rw [CT]; simp [rI_I]
            rw [e5, e14]
            by_cases w : n = id
            · subst w; simp; omega
            · simp [w]
        · refine rr_in hf R.2.2.2.2.2.1 ⟨hv.1, hv.2.1⟩ (by have := hv.2.2; omega) (fun j => by rw [MT]; simp [rI_I]) (fun j => by rw [MT]; simp [rI_I]) he (fun j => by rw [MT]; simp [rI_I]) (fun e' r' _ _ => ?_) z (by rw [CT]; simp [rI_I])
          rw [CT]
          simp only [rI_I]
          by_cases w : e' = e ∧ r' = r
          · obtain ⟨rfl, rfl⟩ := w; simp
          · simp [w]
        · exact a_cg R.2.2.2.2.2.2.1 (fun n => by
            rw [I9]
            by_cases w : n = id
            · subst w; simp; exact hv.2.2
            · simp [w]) (fun j => by rw [CT]; rfl) (by rw [CT]; simp [rI_I]) (by rw [CT]; simp [rI_I]) (fun j => by rw [MT]; simp [rI_I]) (by rw [MT]; simp [rI_I])
      refine rel_zd R1 (fun _ => ?_) (fun _ => ⟨fun q => ?_, ?_⟩) (fun _ _ q => ?_) (fun _ q => ?_) (fun _ q => ?_)
      · rw [CT, MT]; simpa [rI_I, rI_L] using hky
      · rw [I9, if_pos rfl] at q; cases q
      · rw [CT]; simp [rI_I]; exact hfw
      · rw [I9, if_pos rfl] at q; omega
      · rw [I9, if_pos rfl] at q; omega
      · rw [I9, if_pos rfl] at q; cases q
    obtain ⟨v, c1, c', m', p1, p2, p3, p4, p5, p6⟩ := p_answer hf (by omega) ⟨hv.1, hv.2.1⟩ R2
    rw [p3, Option.bind_some]
    refine ⟨-3, C, rfl, Or.inr ⟨rfl, v, c1, c', m', p1, p2, rfl, p4, so_tr ?_ p5, so_tr (so_I (so_rfl m) rfl _ _) p6⟩⟩
    rw [← hC]
    exact so_I (so_I (so_rfl c) rfl _ _) rfl _ _
  · rw [if_neg z, if_pos (by omega)]
    exact ⟨2, c, rfl, Or.inl ⟨rfl, rfl, rfl⟩⟩
/-- the loop ends with what became of it -/
theorem f_out {id o i : Int} (fu : Nat) (h1 : o ≠ -1) (h2 : o ≠ -2) : F11_place_5 (fu + 1) (some id) o i c = F11_place_141 (some id) o c := by
  show F11_place_5b (F11_place_5 fu) (some id) o i c = _
  unfold F11_place_5b
  rw [Option.bind_some, if_neg h2, if_neg h1]
  split <;> rfl
theorem f_bad {id o : Int} (h : 0 < o) : F11_place_141 (some id) o c = (F11_end (some id) o 0 c).bind (fun h => some h) := by
  unfold F11_place_141 F11_place_173
  rw [if_neg (by omega), if_neg (by omega), if_neg (by omega)]
/-- a call that could not be placed is over -/
theorem p_bad (hf : f_ok f) (hB : B + 10 < 2000000000) {id o : Int} (ho : 0 < o ∧ o < 256) (hv : lv c id) (R : rel f N (-1) (-1) (-1) none Y id B H c m) :
    ∃ c' m', F11_place_141 (some id) o c = some c' ∧ (F12_over (f id) o (-1) m).bind (fun h => some h) = some m' ∧ rel f N (-1) (-1) (-1) none Y (-1) (B + 3) H c' m' ∧ so w_C c c' ∧ so w_M m m' := by
  obtain ⟨c', m', e1, e2, e3, e4, e5, e6⟩ := p_end0 (why := o) hf hB ⟨by omega, ho.2⟩ hv R
  have dead : ¬ lv c' id := fun z => z.2.2 (by rw [e6]; simp)
  exact ⟨c', m', by rw [f_bad ho.1, e1]; rfl, by rw [e2]; rfl, rel_zd e3 (fun z => absurd z dead) (fun z => absurd z dead) (fun z => absurd z dead) (fun z => absurd z dead) (fun z => absurd z dead), e4, e5⟩
/-- the zone is set -/
theorem rel_zo (hf : f_ok f) {id z : Int} (hv : lv c id) (hz : c.2.2 0 id 1 ≠ none → z = c.1 0 id 11) (R : rel f N z1 z2 X sec Y id B H c m) : rel f N z1 z2 X sec Y id B H c (sI m 143 0 (f id) z) := by
  have hh : r_h f N z1 z2 X sec Y id c (sI m 143 0 (f id) z) := by
    have inj := hf.1
    have hlv : ∀ i, lv c i ↔ lv c i := fun i => Iff.rfl
    have HH := R.2.2.1
    obtain ⟨h_st, h_sx, h_hm, h_sa, h_sb, h_gp, h_ky, h_k1, h_fw, h_fr, h_ce, h_an, h_zn, h_rw, h_la, h_lo, h_lr, h_wa, h_wo, h_wx, h_wr, h_w3, h_w4, h_w8, h_w9, h_w5, h_t1, h_t2, h_t3, h_t6, h_t9, h_ty, h_xx, h_zr⟩ := HH
    refine ⟨?_, ?_, ?_, ?_, ?_, ?_, ?_, ?_, ?_, ?_, ?_, ?_, ?_, ?_, ?_, ?_, ?_, ?_, ?_, ?_, ?_, ?_, ?_, ?_, ?_, ?_, ?_, ?_, ?_, ?_, ?_, ?_, ?_, ?_⟩
    · -- st
      simpa [d_st, hlv, rI_I, rI_L, rI_R, rL_I, rL_L, rL_R, rR_I, rR_L, rR_R] using h_st
    · -- sx
      simpa [d_sx, hlv, rI_I, rI_L, rI_R, rL_I, rL_L, rL_R, rR_I, rR_L, rR_R] using h_sx
    · -- hm
      simpa [d_hm, hlv, rI_I, rI_L, rI_R, rL_I, rL_L, rL_R, rR_I, rR_L, rR_R] using h_hm
    · -- sa
      simpa [d_sa, hlv, rI_I, rI_L, rI_R, rL_I, rL_L, rL_R, rR_I, rR_L, rR_R] using h_sa
    · -- sb
      simpa [d_sb, hlv, rI_I, rI_L, rI_R, rL_I, rL_L, rL_R, rR_I, rR_L, rR_R] using h_sb
    · -- gp
      simpa [d_gp, hlv, rI_I, rI_L, rI_R, rL_I, rL_L, rL_R, rR_I, rR_L, rR_R] using h_gp
    · -- ky
      simpa [d_ky, hlv, rI_I, rI_L, rI_R, rL_I, rL_L, rL_R, rR_I, rR_L, rR_R] using h_ky
    · -- k1
      simpa [d_k1, hlv, rI_I, rI_L, rI_R, rL_I, rL_L, rL_R, rR_I, rR_L, rR_R] using h_k1
    · -- fw
      simpa [d_fw, hlv, rI_I, rI_L, rI_R, rL_I, rL_L, rL_R, rR_I, rR_L, rR_R] using h_fw
    · -- fr
      simpa [d_fr, hlv, rI_I, rI_L, rI_R, rL_I, rL_L, rL_R, rR_I, rR_L, rR_R] using h_fr
    · -- ce
      simpa [d_ce, hlv, rI_I, rI_L, rI_R, rL_I, rL_L, rL_R, rR_I, rR_L, rR_R] using h_ce
    · -- an
      simpa [d_an, hlv, rI_I, rI_L, rI_R, rL_I, rL_L, rL_R, rR_I, rR_L, rR_R] using h_an
    · -- zn
      simp only [d_zn, d_zr, hlv, rI_I, rI_L, rI_R, rL_I, rL_L, rL_R, rR_I, rR_L, rR_R] at h_zn h_zr ⊢; grind [rf, lv]
    · -- rw
      simpa [d_rw, hlv, rI_I, rI_L, rI_R, rL_I, rL_L, rL_R, rR_I, rR_L, rR_R] using h_rw
    · -- la
      simpa [d_la, hlv, rI_I, rI_L, rI_R, rL_I, rL_L, rL_R, rR_I, rR_L, rR_R] using h_la
    · -- lo
      simpa [d_lo, hlv, rI_I, rI_L, rI_R, rL_I, rL_L, rL_R, rR_I, rR_L, rR_R] using h_lo
    · -- lr
      simpa [d_lr, hlv, rI_I, rI_L, rI_R, rL_I, rL_L, rL_R, rR_I, rR_L, rR_R] using h_lr
    · -- wa
      simpa [d_wa, hlv, rI_I, rI_L, rI_R, rL_I, rL_L, rL_R, rR_I, rR_L, rR_R] using h_wa
    · -- wo
      simpa [d_wo, hlv, rI_I, rI_L, rI_R, rL_I, rL_L, rL_R, rR_I, rR_L, rR_R] using h_wo
    · -- wx
      simpa [d_wx, hlv, rI_I, rI_L, rI_R, rL_I, rL_L, rL_R, rR_I, rR_L, rR_R] using h_wx
    · -- wr
      simpa [d_wr, hlv, rI_I, rI_L, rI_R, rL_I, rL_L, rL_R, rR_I, rR_L, rR_R] using h_wr
    · -- w3
      simpa [d_w3, hlv, rI_I, rI_L, rI_R, rL_I, rL_L, rL_R, rR_I, rR_L, rR_R] using h_w3
    · -- w4
      simpa [d_w4, hlv, rI_I, rI_L, rI_R, rL_I, rL_L, rL_R, rR_I, rR_L, rR_R] using h_w4
    · -- w8
      simpa [d_w8, hlv, rI_I, rI_L, rI_R, rL_I, rL_L, rL_R, rR_I, rR_L, rR_R] using h_w8
    · -- w9
      simpa [d_w9, hlv, rI_I, rI_L, rI_R, rL_I, rL_L, rL_R, rR_I, rR_L, rR_R] using h_w9
    · -- w5
      simpa [d_w5, hlv, rI_I, rI_L, rI_R, rL_I, rL_L, rL_R, rR_I, rR_L, rR_R] using h_w5
    · -- t1
      simpa [d_t1, hlv, rI_I, rI_L, rI_R, rL_I, rL_L, rL_R, rR_I, rR_L, rR_R] using h_t1
    · -- t2
      simpa [d_t2, hlv, rI_I, rI_L, rI_R, rL_I, rL_L, rL_R, rR_I, rR_L, rR_R] using h_t2
    · -- t3
      simpa [d_t3, hlv, rI_I, rI_L, rI_R, rL_I, rL_L, rL_R, rR_I, rR_L, rR_R] using h_t3
    · -- t6
      simpa [d_t6, hlv, rI_I, rI_L, rI_R, rL_I, rL_L, rL_R, rR_I, rR_L, rR_R] using h_t6
    · -- t9
      simpa [d_t9, hlv, rI_I, rI_L, rI_R, rL_I, rL_L, rL_R, rR_I, rR_L, rR_R] using h_t9
    · -- ty
      simpa [d_ty, hlv, rI_I, rI_L, rI_R, rL_I, rL_L, rL_R, rR_I, rR_L, rR_R] using h_ty
    · -- xx
      simpa [d_xx, hlv, rI_I, rI_L, rI_R, rL_I, rL_L, rL_R, rR_I, rR_L, rR_R] using h_xx
    · -- zr
      simpa [d_zr, hlv, rI_I, rI_L, rI_R, rL_I, rL_L, rL_R, rR_I, rR_L, rR_R] using h_zr

  exact rel_h hf R hh (so_rfl c) (so_I (so_rfl m) rfl _ _) (fun n => by simp) (fun s a b => by simp [rI_I])
/-- where it is sent to, and how -/
theorem rel_se (hf : f_ok f) {id a k : Int} (hv : lv c id) (hs : c.1 0 id 9 ≠ 1) (R : rel f N z1 z2 X sec Y zd B H c m) : rel f N z1 z2 X sec Y zd B H c (sI (sI m 141 0 (f id) a) 142 0 (f id) k) := by
  have hh : r_h f N z1 z2 X sec Y zd c (sI (sI m 141 0 (f id) a) 142 0 (f id) k) := by
    have inj := hf.1
    have hlv : ∀ i, lv c i ↔ lv c i := fun i => Iff.rfl
    have HH := R.2.2.1
    obtain ⟨h_st, h_sx, h_hm, h_sa, h_sb, h_gp, h_ky, h_k1, h_fw, h_fr, h_ce, h_an, h_zn, h_rw, h_la, h_lo, h_lr, h_wa, h_wo, h_wx, h_wr, h_w3, h_w4, h_w8, h_w9, h_w5, h_t1, h_t2, h_t3, h_t6, h_t9, h_ty, h_xx, h_zr⟩ := HH
    refine ⟨?_, ?_, ?_, ?_, ?_, ?_, ?_, ?_, ?_, ?_, ?_, ?_, ?_, ?_, ?_, ?_, ?_, ?_, ?_, ?_, ?_, ?_, ?_, ?_, ?_, ?_, ?_, ?_, ?_, ?_, ?_, ?_, ?_, ?_⟩
    · -- st
      simpa [d_st, hlv, rI_I, rI_L, rI_R, rL_I, rL_L, rL_R, rR_I, rR_L, rR_R] using h_st
    · -- sx
      simpa [d_sx, hlv, rI_I, rI_L, rI_R, rL_I, rL_L, rL_R, rR_I, rR_L, rR_R] using h_sx
    · -- hm
      simpa [d_hm, hlv, rI_I, rI_L, rI_R, rL_I, rL_L, rL_R, rR_I, rR_L, rR_R] using h_hm
    · -- sa
      simpa [d_sa, hlv, rI_I, rI_L, rI_R, rL_I, rL_L, rL_R, rR_I, rR_L, rR_R] using h_sa
    · -- sb
      simpa [d_sb, hlv, rI_I, rI_L, rI_R, rL_I, rL_L, rL_R, rR_I, rR_L, rR_R] using h_sb
    · -- gp
      simpa [d_gp, hlv, rI_I, rI_L, rI_R, rL_I, rL_L, rL_R, rR_I, rR_L, rR_R] using h_gp
    · -- ky
      simpa [d_ky, hlv, rI_I, rI_L, rI_R, rL_I, rL_L, rL_R, rR_I, rR_L, rR_R] using h_ky
    · -- k1
      simpa [d_k1, hlv, rI_I, rI_L, rI_R, rL_I, rL_L, rL_R, rR_I, rR_L, rR_R] using h_k1
    · -- fw
      simpa [d_fw, hlv, rI_I, rI_L, rI_R, rL_I, rL_L, rL_R, rR_I, rR_L, rR_R] using h_fw
    · -- fr
      simpa [d_fr, hlv, rI_I, rI_L, rI_R, rL_I, rL_L, rL_R, rR_I, rR_L, rR_R] using h_fr
    · -- ce
      simpa [d_ce, hlv, rI_I, rI_L, rI_R, rL_I, rL_L, rL_R, rR_I, rR_L, rR_R] using h_ce
    · -- an
      simpa [d_an, hlv, rI_I, rI_L, rI_R, rL_I, rL_L, rL_R, rR_I, rR_L, rR_R] using h_an
    · -- zn
      simpa [d_zn, hlv, rI_I, rI_L, rI_R, rL_I, rL_L, rL_R, rR_I, rR_L, rR_R] using h_zn
    · -- rw
      simp only [d_rw, hlv, rI_I, rI_L, rI_R, rL_I, rL_L, rL_R, rR_I, rR_L, rR_R] at h_rw ⊢; grind [rf, lv]
    · -- la
      simpa [d_la, hlv, rI_I, rI_L, rI_R, rL_I, rL_L, rL_R, rR_I, rR_L, rR_R] using h_la
    · -- lo
      simpa [d_lo, hlv, rI_I, rI_L, rI_R, rL_I, rL_L, rL_R, rR_I, rR_L, rR_R] using h_lo
    · -- lr
      simpa [d_lr, hlv, rI_I, rI_L, rI_R, rL_I, rL_L, rL_R, rR_I, rR_L, rR_R] using h_lr
    · -- wa
      simpa [d_wa, hlv, rI_I, rI_L, rI_R, rL_I, rL_L, rL_R, rR_I, rR_L, rR_R] using h_wa
    · -- wo
      simpa [d_wo, hlv, rI_I, rI_L, rI_R, rL_I, rL_L, rL_R, rR_I, rR_L, rR_R] using h_wo
    · -- wx
      simpa [d_wx, hlv, rI_I, rI_L, rI_R, rL_I, rL_L, rL_R, rR_I, rR_L, rR_R] using h_wx
    · -- wr
      simpa [d_wr, hlv, rI_I, rI_L, rI_R, rL_I, rL_L, rL_R, rR_I, rR_L, rR_R] using h_wr
    · -- w3
      simpa [d_w3, hlv, rI_I, rI_L, rI_R, rL_I, rL_L, rL_R, rR_I, rR_L, rR_R] using h_w3
    · -- w4
      simpa [d_w4, hlv, rI_I, rI_L, rI_R, rL_I, rL_L, rL_R, rR_I, rR_L, rR_R] using h_w4
    · -- w8
      simpa [d_w8, hlv, rI_I, rI_L, rI_R, rL_I, rL_L, rL_R, rR_I, rR_L, rR_R] using h_w8
    · -- w9
      simpa [d_w9, hlv, rI_I, rI_L, rI_R, rL_I, rL_L, rL_R, rR_I, rR_L, rR_R] using h_w9
    · -- w5
      simpa [d_w5, hlv, rI_I, rI_L, rI_R, rL_I, rL_L, rL_R, rR_I, rR_L, rR_R] using h_w5
    · -- t1
      simpa [d_t1, hlv, rI_I, rI_L, rI_R, rL_I, rL_L, rL_R, rR_I, rR_L, rR_R] using h_t1
    · -- t2
      simpa [d_t2, hlv, rI_I, rI_L, rI_R, rL_I, rL_L, rL_R, rR_I, rR_L, rR_R] using h_t2
    · -- t3
      simpa [d_t3, hlv, rI_I, rI_L, rI_R, rL_I, rL_L, rL_R, rR_I, rR_L, rR_R] using h_t3
    · -- t6
      simpa [d_t6, hlv, rI_I, rI_L, rI_R, rL_I, rL_L, rL_R, rR_I, rR_L, rR_R] using h_t6
    · -- t9
      simpa [d_t9, hlv, rI_I, rI_L, rI_R, rL_I, rL_L, rL_R, rR_I, rR_L, rR_R] using h_t9
    · -- ty
      simpa [d_ty, hlv, rI_I, rI_L, rI_R, rL_I, rL_L, rL_R, rR_I, rR_L, rR_R] using h_ty
    · -- xx
      simpa [d_xx, hlv, rI_I, rI_L, rI_R, rL_I, rL_L, rL_R, rR_I, rR_L, rR_R] using h_xx
    · -- zr
      simpa [d_zr, hlv, rI_I, rI_L, rI_R, rL_I, rL_L, rL_R, rR_I, rR_L, rR_R] using h_zr

  exact rel_h hf R hh (so_rfl c) (so_I (so_I (so_rfl m) rfl _ _) rfl _ _) (fun n => by simp) (fun s a b => by simp [rI_I])
/-- a call is placed by its row -/
theorem p_place (hf : f_ok f) (hB : B + 40 < 2000000000) {id : Int} : ∀ (n : Nat) (fu : Nat) (c m : JM) (i r : Int), plc f N (-1) B H id c m → rwo f id r c m → (c.2.2 0 id 1 ≠ none → ((m.1 143 0 (f id) = -1 ∧ c.1 0 id 11 = m.1 111 0 r) ∨ (m.1 143 0 (f id) = c.1 0 id 11 ∧ 0 ≤ c.1 0 id 11))) → c.1 0 id 9 ≠ 1 → m.1 138 0 (f id) = -1 → 0 ≤ i → i ≤ 2 * c.1 0 id 12 → 6 ≤ (n : Int) + c.1 0 id 12 → 40 ≤ i + fu →
    ∃ c' m', F11_place_5 fu (some id) (-1) i c = some c' ∧ F12_placesN n (f id) r m = some m' ∧ relN f N (B + 6) H c' m' ∧ so w_C c c' ∧ so w_M m m'
  | 0, fu, c, m, i, r, P, _, _, _, _, _, _, h, _ => by have := P.2.2.2.2.2; omega
  | n + 1, 0, c, m, i, r, P, _, _, _, _, _, h1, _, h => by have := P.2.2.2.2.2; omega
  | n + 1, 1, c, m, i, r, P, _, _, _, _, _, h1, _, h => by have := P.2.2.2.2.2; omega
  | n + 1, 2, c, m, i, r, P, _, _, _, _, _, h1, _, h => by have := P.2.2.2.2.2; omega
  | n + 1, fu + 3, c, m, i, r, P, hrw, hz, hs1, h138, i0, i1, hn, hfu => by
    have P0 := P
    obtain ⟨R, hv, h7, hg, hky, hfw⟩ := P
    have hfr := hf.2.2.1 id hv.1 (by have := hv.2.1; omega)
    have b_hm := R.2.2.1.2.2.1 id hv
    have b_zr := R.2.2.1.2.2.2.2.2.2.2.2.2.2.2.2.2.2.2.2.2.2.2.2.2.2.2.2.2.2.2.2.2.2.2.2.2 id hv
    obtain ⟨rw1, rw2, rw3, rw4⟩ := hrw
    obtain ⟨p1, p2, p3, p4⟩ := R.2.2.2.2.2.2.2.2.1 (m.1 135 0 (f id)) b_hm.2
    obtain ⟨o1, o2, o3, o4, o5, o6, o7, o8, o9, o10, o11, o12⟩ := p4 r rw2 rw3
    have hr48 : 0 ≤ r ∧ r < 48 := by omega
    -- the reference sets the zone
    obtain ⟨zz, hzz, hpl⟩ : ∃ zz, (c.2.2 0 id 1 ≠ none → zz = c.1 0 id 11) ∧ F12_placesN (n + 1) (f id) r m = F12_places_30 (F12_placesN n) (f id) r (some 0) (f id) zz m := by
      by_cases q : m.1 143 0 (f id) = -1
      · refine ⟨m.1 111 0 r, fun w => ?_, ?_⟩
        · rcases hz w with ⟨_, a⟩ | ⟨a, b⟩
          · exact a.symm
          · omega
        · show F12_places (F12_placesN n) (f id) r m = _
          unfold F12_places
          rw [g_t hfr, if_pos q, g_t hr48]
      · refine ⟨m.1 143 0 (f id), fun w => ?_, ?_⟩
        · rcases hz w with ⟨a, _⟩ | ⟨a, b⟩
          · exact absurd a q
          · exact a
        · show F12_places (F12_placesN n) (f id) r m = _
          unfold F12_places
          rw [g_t hfr, if_neg q, g_t hfr]
    have Rz := rel_zo hf hv hzz R
    have mz : ∀ k n j, k ≠ 143 → (sI m 143 0 (f id) zz).1 k n j = m.1 k n j := fun k n j q => by rw [rI_o (by omega)]
    have kyz : k_R (c.2.1 0 id 8) ((sI m 143 0 (f id) zz).1 140 0 (f id)) (fun j => (sI m 143 0 (f id) zz).1 139 0 (12 * f id + j)) := by simpa [rI_I] using hky
    have P2 : plc f N (-1) B H id c (sI m 143 0 (f id) zz) := ⟨Rz, hv, by rw [mz _ _ _ (by decide)]; exact h7, hg, kyz, hfw⟩
    have hz2 : c.2.2 0 id 1 ≠ none → (sI m 143 0 (f id) zz).1 143 0 (f id) = c.1 0 id 11 ∧ 0 ≤ c.1 0 id 11 ∧ c.1 0 id 11 ≤ 3 := fun w => ⟨by rw [rI_s]; exact hzz w, b_zr⟩
    have so1 : so w_M m (sI m 143 0 (f id) zz) := so_I (so_rfl m) rfl _ _
    -- the class looks at the row
    have hcl : F11_place_5 (fu + 3) (some id) (-1) i c = if m.1 109 0 r = 0 then g_ ((0 : Int) ≤ m.1 110 0 r ∧ m.1 110 0 r < (16 : Int)) ((F11_placeToLine (some id) (some (m.1 110 0 r)) c).bind (fun q11 => F11_place_5 (fu + 2) (some id) q11.1 (i + 1) q11.2)) else if m.1 109 0 r = 3 then g_ ((0 : Int) ≤ m.1 110 0 r ∧ m.1 110 0 r < (3 : Int)) ((F11_placeToGroup (some id) (some (3 * m.1 135 0 (f id) + m.1 110 0 r)) c).bind (fun q10 => F11_place_5 (fu + 2) (some id) q10.1 (i + 1) q10.2)) else if m.1 109 0 r = 4 then (F11_placeToRoom (some id) (m.1 110 0 r) c).bind (fun q8 => F11_place_5 (fu + 2) (some id) q8.1 (i + 1) q8.2) else (F11_placeFar (some id) (some r) c).bind (fun q7 => F11_place_5 (fu + 2) (some id) q7.1 (i + 1) q7.2) := by
      show F11_place_5b (F11_place_5 (fu + 2)) (some id) (-1) i c = _
      unfold F11_place_5b F11_place_135
      rw [if_neg (by omega), Option.bind_some, if_neg (by simp), if_pos rfl, if_neg (by rw [rw1]; simp), rw1, Option.bind_some, o7, o8, b_hm.1, Option.bind_some, w32_of (by omega) (by omega)]
    rw [hcl, hpl]
    unfold F12_places_30
    rw [Option.bind_some, g_t hfr, lt_d, g_t hr48, lt_d, g_t hr48, mz 109 0 r (by decide), mz 110 0 r (by decide)]
    -- what could not be placed
    have bad : ∀ {c1 m1 : JM} {o : Int}, 0 < o → o < 256 → lv c1 id → rel f N (-1) (-1) (-1) none (-1) id B H c1 m1 → so w_C c c1 → so w_M m m1 → ∃ c' m', F11_place_5 (fu + 2) (some id) o (i + 1) c1 = some c' ∧ ((F12_over (f id) o (-1) m1).bind (fun h => some h)).bind (fun h => some h) = some m' ∧ relN f N (B + 6) H c' m' ∧ so w_C c c' ∧ so w_M m m' := fun {c1 m1 o} h1 h2 h3 h4 h5 h6 => by
      obtain ⟨c', m', e1, e2, e3, e4, e5⟩ := p_bad hf (by omega) ⟨h1, h2⟩ h3 h4
      exact ⟨c', m', by rw [f_out (fu + 1) (by omega) (by omega)]; exact e1, by rw [e2]; rfl, rel_mono (by omega) e3, so_tr h5 e4, so_tr h6 e5⟩
    -- what stands
    have good : ∀ {c1 c' m' : JM} {x : Int}, c1.1 0 id 9 ≠ 1 → F11_announce (some id) c1 = some c' → x ≤ B + 6 → rel f N (-1) (-1) (-1) none (-1) (-1) x H c' m' → F11_place_5 (fu + 2) (some id) 0 (i + 1) c1 = some c' ∧ relN f N (B + 6) H c' m' := fun {c1 c' m' x} h1 h2 hx h3 => by
      refine ⟨?_, rel_mono hx h3⟩
      rw [f_out (fu + 1) (by decide) (by decide)]
      unfold F11_place_141 F11_place_173
      rw [if_neg (by simp), if_pos rfl, Option.bind_some, if_neg h1, h2, Option.bind_some, if_pos (by simp)]
    rcases o12 with ⟨k0, k1, k2⟩ | ⟨k0, k1, k2⟩ | ⟨k0, k1, k2⟩ | ⟨k0, k1, k2⟩
    · -- a line
      rw [if_pos k0, if_pos k0, g_t (by omega)]
      obtain ⟨o, c1, l1, l2⟩ := p_line hf (by omega) (F12_placesN n) P2 hz2 (l := m.1 110 0 r) (by rw [mz 135 0 _ (by decide)]; exact ⟨k1, k2⟩)
      rw [l1, Option.bind_some]
      rcases l2 with ⟨q1, q2, rfl, q4⟩ | ⟨rfl, q2, c', m', q3, q4, q5, q6, q7⟩ | ⟨rfl, fi, x, f1, f2, rfl, f4, f5⟩
      · rw [q4]
        exact bad q1 q2 hv Rz (so_rfl _) so1
      · rw [q4, Option.bind_some]
        obtain ⟨g1, g2⟩ := good (by rw [q2]; decide) q3 (by omega) q5
        exact ⟨c', m', g1, rfl, g2, q6, so_tr so1 q7⟩
      · -- it is forwarded
        have R3 := rel_key (x := x) hf Rz
        obtain ⟨o, c2, m2, a1, a2, a3, a4, a5, a6, a7, a8, a9, a10, a11⟩ := p_on (x := x) (c := sL c 0 id 8 x) hf (F12_placesN n) (id := id) ⟨f1, f2⟩ ⟨hv.1, hv.2.1, hv.2.2⟩ R3 (by rw [mz _ _ _ (by decide)]; exact h7) hg hfw hs1 (by simp [rL_L]) f4
        have step : F11_place_5 (fu + 2) (some id) (-2) (i + 1) (sL c 0 id 8 x) = F11_place_5 (fu + 1) (some id) o (i + 2) c2 := by
          show F11_place_5b (F11_place_5 (fu + 1)) (some id) (-2) (i + 1) (sL c 0 id 8 x) = _
          unfold F11_place_5b F11_place_135
          rw [if_neg (by omega), Option.bind_some, if_pos rfl, a1, Option.bind_some, w32_of (by omega) (by omega), show i + 1 + 1 = i + 2 by omega]
        rw [step, f5]
        have sc2 : so w_C c c2 := so_tr (so_L (so_rfl c) rfl _ _) a4
        have sm2 : so w_M m m2 := so_tr so1 a5
        rcases a11 with ⟨b1, b2⟩ | ⟨rfl, b2, r', b3, b4⟩
        · rw [b2]
          obtain ⟨c', m', e1, e2, e3, e4, e5⟩ := p_bad hf (by omega) (o := o) (by omega) a3 a2
          exact ⟨c', m', by rw [f_out fu (by omega) (by omega)]; exact e1, by rw [e2]; rfl, rel_mono (by omega) e3, so_tr sc2 e4, so_tr sm2 e5⟩
        · rw [b4]
          have i6 : c2.1 0 id 12 = c.1 0 id 12 + 1 := a10
          have m143 : m2.1 143 0 (f id) = zz := by rw [a9, rI_s]
          have m138 : m2.1 138 0 (f id) = -1 := by
            have g := a2.2.2.1.2.2.2.2.2.1 id a3
            rcases g with ⟨g, _⟩ | ⟨_, _, g3, g4⟩
            · exact g
            · rw [b2.2.2.2.1] at g4; cases g4
          obtain ⟨c', m', e1, e2, e3, e4, e5⟩ := p_place hf hB n (fu + 1) c2 m2 (i + 2) r' b2 b3 (fun w => Or.inr ⟨by rw [m143, a8]; exact hzz (by rw [a7] at w; exact w), by rw [a8]; exact b_zr.1⟩) (by rw [a6]; exact hs1) m138 (by omega) (by rw [i6]; omega) (by rw [i6]; omega) (by omega)
          exact ⟨c', m', e1, by rw [e2]; rfl, e3, so_tr sc2 e4, so_tr sm2 e5⟩
    · -- the other exchange
      have hfar : ∀ kk, m.1 109 0 r = kk → kk = 1 ∨ kk = 2 → ∃ c' m', (F11_placeFar (some id) (some r) c).bind (fun q7 => F11_place_5 (fu + 2) (some id) q7.1 (i + 1) q7.2) = some c' ∧ (g_ ((0 : Int) ≤ f id ∧ f id < (80 : Int)) (lt_ (sI (sI m 143 0 (f id) zz) 141 0 (f id) (m.1 110 0 r)) (fun h5 => g_ ((0 : Int) ≤ r ∧ r < (48 : Int)) (g_ ((0 : Int) ≤ f id ∧ f id < (80 : Int)) (lt_ (sI h5 142 0 (f id) (h5.1 109 0 r)) (fun h6 => (F12_toFar (f id) h6).bind (fun h7 => some h7))))))) = some m' ∧ relN f N (B + 6) H c' m' ∧ so w_C c c' ∧ so w_M m m' := fun kk hkk hk => by
        rw [g_t hfr, lt_d, g_t hr48, g_t hfr, lt_d, show (sI (sI m 143 0 (f id) zz) 141 0 (f id) (m.1 110 0 r)).1 109 0 r = kk from by simp [rI_I, hkk]]
        have R4 := rel_se (a := m.1 110 0 r) (k := kk) hf hv hs1 Rz
        have so2 : so w_M m (sI (sI (sI m 143 0 (f id) zz) 141 0 (f id) (m.1 110 0 r)) 142 0 (f id) kk) := so_I (so_I so1 rfl _ _) rfl _ _
        obtain ⟨o, c1, l1, l2⟩ := p_far (r := r) hf (by omega) hv R4 (by simp [rI_I, h7]) hg (by simpa [rI_I] using hky) hfw (by simpa [rI_I] using hz2) (by simp [rI_I]; exact ⟨rw1, rw2, rw3, by rw [o7, hkk], hk, o8, by omega, by omega⟩)
        rw [l1, Option.bind_some]
        rcases l2 with ⟨rfl, q2, m', q3, q4, q5, q6⟩ | ⟨q1, q2, rfl, q4⟩
        · rw [q3, Option.bind_some]
          refine ⟨c1, m', ?_, rfl, rel_mono (by omega) q4, q5, so_tr so2 q6⟩
          dsimp only
          rw [f_out (fu + 1) (by decide) (by decide)]
          unfold F11_place_141 F11_place_173
          rw [if_neg (by simp), if_pos rfl, Option.bind_some, if_pos q2, if_pos (by simp)]
        · rw [q4]
          exact bad q1 q2 hv R4 (so_rfl _) so2
      rcases k0 with k0 | k0
      · rw [if_neg (by omega), if_neg (by omega), if_neg (by omega), if_neg (by omega), if_pos k0]
        exact hfar 1 k0 (Or.inl rfl)
      · rw [if_neg (by omega), if_neg (by omega), if_neg (by omega), if_neg (by omega), if_neg (by omega), if_pos k0]
        exact hfar 2 k0 (Or.inr rfl)
    · -- a group
      rw [if_neg (by omega), if_pos k0, g_t (by omega), if_neg (by omega), if_neg (by omega), if_neg (by omega), if_pos k0]
      obtain ⟨o, c1, l1, l2⟩ := p_group (g := m.1 110 0 r) hf (by omega) P2 hz2 (by rw [mz _ _ _ (by decide)]; exact h138) ⟨k1, k2⟩
      rw [mz 135 0 _ (by decide)] at l1
      rw [l1, Option.bind_some]
      rcases l2 with ⟨rfl, q2, q3, q4, q5⟩ | ⟨rfl, q2, c', m', q3, q4, q5, q6, q7⟩
      · rw [q5]
        exact bad (by simp) (by simp) q3 q2 q4 so1
      · rw [q4, Option.bind_some]
        obtain ⟨g1, g2⟩ := good q2 q3 (by omega) q5
        exact ⟨c', m', g1, rfl, g2, q6, so_tr so1 q7⟩
    · -- a room
      rw [if_neg (by omega), if_neg (by omega), if_pos k0, if_neg (by omega), if_neg (by omega), if_neg (by omega), if_neg (by omega)]
      obtain ⟨o, c1, l1, l2⟩ := p_room (r := m.1 110 0 r) hf (by omega) P2 hz2 (by omega)
      rw [l1, Option.bind_some]
      rcases l2 with ⟨rfl, rfl, q4⟩ | ⟨rfl, v, c2, c', m', q1, q2, q3, q4, q5, q6⟩
      · rw [q4]
        exact bad (by simp) (by simp) hv Rz (so_rfl _) so1
      · rw [q3, Option.bind_some]
        refine ⟨c', m', ?_, rfl, rel_mono (by omega) q4, q5, so_tr so1 q6⟩
        dsimp only
        rw [f_out (fu + 1) (by decide) (by decide)]
        unfold F11_place_141 F11_place_173
        rw [if_pos rfl, q1, Option.bind_some]
        rcases q2 with ⟨rfl, rfl⟩ | ⟨rfl, q2⟩
        · rw [if_pos (by simp)]
        · rw [if_neg (by simp), q2]; rfl
end RT
