/-! ===== times of all ===== -/
def w_hl (k : Nat) (j : Int) : Bool := k == 0 || (k == 4 && j != 0 && j != 1 && j != 2 && j != 3) || (k == 8 && (j == 2 || j == 3))
def w_hlm (k : Nat) (_ : Int) : Bool := (decide (112 ≤ k) && decide (k ≤ 126)) || k == 130 || k == 131 || k == 133 || (decide (135 ≤ k) && decide (k ≤ 148)) || k == 154 || k == 155
theorem w_g1 : ∀ k j, rkC k j = true → w_hl k j = false := by intro k j; simp [rkC, w_hl]; omega
theorem w_g2 : ∀ k j, rkM k j = true → w_hlm k j = false := by intro k j; simp [rkM, w_hlm]; omega
theorem w_g3 : ∀ k j, rpC k j = true → w_hl k j = false := by intro k j; simp [rpC, w_hl]; omega
theorem w_g4 : ∀ k (j : Int), rpM k = true → w_hlm k j = false := by intro k j; simp [rpM, w_hlm]; omega
section RY
variable {f : Int → Int} {N z1 z2 X : Int} {sec : Option Int} {Y zd : Int} {c m c' m' : JM} {B B' : Int} {H : HT}
theorem sI_sI (m : JM) (k : Nat) (n j v w : Int) : sI (sI m k n j v) k n j w = sI m k n j w := by
  refine jm_ext (fun k' n' j' => ?_) (fun _ _ _ => rfl) (fun _ _ _ => rfl)
  simp only [rI_I]
  split <;> rfl
theorem gon_id (kp : Int → Int → JM → Option JM) (s fi : Int) (m : JM) : F12_goesOn kp s fi (sI m 137 0 s (-1)) = F12_goesOn kp s fi m := by
  unfold F12_goesOn
  rw [sI_sI]
/-- a step in calls and lines -/
theorem rel_hl {z1' z2' X' : Int} {sec' : Option Int} {Y' zd' : Int} (hf : f_ok f) (R : rel f N z1 z2 X sec Y zd B H c m) (R2 : r_l X' c' m') (hh : r_h f N z1' z2' X' sec' Y' zd' c' m') (sc : so w_hl c c') (sm : so w_hlm m m')
    (k4 : ∀ n, (c'.1 0 n 9 = 4 ↔ c.1 0 n 9 = 4) ∧ (c.1 0 n 9 = 4 → c'.2.2 0 n 5 = c.2.2 0 n 5 ∧ c'.1 0 n 14 = c.1 0 n 14) ∧ (c'.1 0 n 9 = -1 ↔ c.1 0 n 9 = -1))
    (k3 : ∀ s, 0 ≤ s → s < 80 → (m'.1 133 0 s = -1 ↔ m.1 133 0 s = -1) ∧ ∀ e r, e = 0 ∨ e = 1 → r = 0 ∨ r = 1 → ((m'.1 133 0 s = 3 ∧ m'.1 135 0 s = e ∧ m'.1 137 0 s = 200 + r) ↔ (m.1 133 0 s = 3 ∧ m.1 135 0 s = e ∧ m.1 137 0 s = 200 + r))) :
    rel f N z1' z2' X' sec' Y' zd' B H c' m' := by
  obtain ⟨R1, _, R3, R4, R5, R6, R7, R8, R9, R10⟩ := R
  refine ⟨?_, R2, hh, ?_, ?_, ?_, ?_, ?_, ?_, ?_⟩
  · exact r_k_cg (fun k n j q => ⟨(sc k n j (w_g1 k j q)).1, (sc k n j (w_g1 k j q)).2.2⟩) (fun k n j q => (sm k n j (w_g2 k j q)).1) R1
  · exact fun e he => r_m_cg (fun k n j q => by rcases q with rfl | rfl <;> exact ⟨(sc _ n j rfl).1, (sc _ n j rfl).2.1⟩) (fun k n j a b => (sm k n j (by simp [w_hlm]; omega)).1) (R4 e he)
  · exact q_cg R5 (fun n => ⟨(k4 n).1, (k4 n).2.1⟩) hf (fun n j => (sc 2 n j rfl).1) (fun n j => (sc 25 n j rfl).2.2) (fun k j a b => (sm k 0 j (by simp [w_hlm]; omega)).1)
  · exact rr_cg R6 k3 (fun e r => (sc 23 e r rfl).1) (sc 11 0 13 rfl).1
  · exact a_cg R7 (fun n => (k4 n).2.2) (fun j => (sc 40 0 j rfl).2.2) (sc 11 0 11 rfl).1 (sc 11 0 12 rfl).1 (fun j => (sm 134 0 j rfl).1) (sm 12 0 32 rfl).1
  · exact g_cg R8 (fun j => (sc 26 0 j rfl).1) (fun j => (sc 27 0 j rfl).1) (sc 3 0 2 rfl).1 (fun k j a b => (sm k 0 j (by simp [w_hlm]; omega)).1) (sm 12 0 90 rfl).1
  · exact r_p_cg (fun k n j q => sc k n j (w_g3 k j q)) (fun k n j q => (sm k n j (w_g4 k j q)).1) R9
  · exact r_f_cg (fun k n j q => sc k n j (w_g3 k j q)) (fun k n j q => (sm k n j (w_g4 k j q)).1) R10
/-- nobody answers: the call is forwarded -/
theorem p_noans (hf : f_ok f) (hB : B + 60 < 2000000000) {id l : Int} (hv : lv c id) (hs : c.1 0 id 9 = 2) (hl : c.2.2 0 id 3 = some l) (h8 : m.1 138 0 (f id) = -1) (R : relN f N B H c m) :
    ∃ c' m', F11_checkRinging (some id) (some l) 300 c = some c' ∧ F12_ringsLong (f id) 300 m = some m' ∧ relN f N (B + 6) H c' m' ∧ so w_C c c' ∧ so w_M m m' := by
  have i0 := hv.1
  have hfr := hf.2.2.1 id hv.1 (by have := hv.2.1; omega)
  have b_hm := R.2.2.1.2.2.1 id hv
  have b_st := R.2.2.1.1 id hv.1 hv.2.1
  have b_sb := R.2.2.1.2.2.2.2.1 id hv
  have b_gp := R.2.2.1.2.2.2.2.2.1 id hv
  have b_zn := R.2.2.1.2.2.2.2.2.2.2.2.2.2.2.2.1 id hv
  have b_k1 := R.2.2.1.2.2.2.2.2.2.2.1 id hv (by omega)
  have b_fw := R.2.2.1.2.2.2.2.2.2.2.2.1 id hv
  have b_zr := R.2.2.1.2.2.2.2.2.2.2.2.2.2.2.2.2.2.2.2.2.2.2.2.2.2.2.2.2.2.2.2.2.2.2.2.2 id hv
  have hwr := R.2.2.1.2.2.2.2.2.2.2.2.2.2.2.2.2.2.2.2.2.2.2.2.1 l id
  have hlr := R.2.2.1.2.2.2.2.2.2.2.2.2.2.2.2.2.2.2.2.1 l
  have hlo := R.2.2.1.2.2.2.2.2.2.2.2.2.2.2.2.2.2.2.1 l
  have hnow : m.1 12 0 2 = c.1 11 0 10 := R.1.2.2.2.2.2.2.2.1
  obtain ⟨l1, l2, l3⟩ : m.1 137 0 (f id) = l ∧ 0 ≤ l ∧ l < 16 := by
    rcases b_sb with ⟨_, a, _⟩ | ⟨a1, a2, a, _⟩ | ⟨_, _, a, _⟩ | ⟨_, _, a, _⟩ | ⟨_, _, a, _⟩
    · rw [hl] at a; cases a
    · rw [hl] at a; cases a; omega
    · rw [hl] at a; cases a
    · rw [hl] at a; cases a
    · rw [hl] at a; cases a
  have hg : c.2.2 0 id 5 = none := by
    rcases b_gp with ⟨_, a⟩ | ⟨a, _⟩
    · exact a (by omega) (by omega)
    · omega
  have w1 : w32 (3 * l) = 3 * l := w32_of (by omega) (by omega)
  have w2 : w32 (3 * l + 2) = 3 * l + 2 := w32_of (by omega) (by omega)
  obtain ⟨_, _, f3⟩ := R.2.2.2.2.2.2.2.2.2 l 2 l2 l3 (by omega) (by omega)
  have z0 := k_R0 f3
  have e121 : m.1 121 0 l = f id ↔ c.2.2 4 l 13 = some id := by rw [hlr l2 l3]; exact rf_eq hf _ _
  have e120 : m.1 120 0 l = f id ↔ c.2.2 4 l 12 = some id := by rw [hlo l2 l3 (by omega)]; exact rf_eq hf _ _
  have m112 := (R.2.1 l).1
  obtain ⟨m1, y1, y2, y3⟩ := m_rnm m (f id) l ⟨l2, l3⟩ (fun q => by rw [m112]; exact (hwr (e121.1 q)).2.2.2.2.2) (F12_ringsLong_208 (f id) l)
  have em : F12_ringsLong (f id) 300 m = if m.1 129 0 (3 * l + 2) ≤ 0 then some m else F12_ringsLong_208 (f id) l m1 := by
    unfold F12_ringsLong F12_ringsLong_221 F12_ringsLong_191
    rw [g_t hfr, lt_d, g_t hfr, if_pos h8, if_pos rfl, l1, w1, w2, g_t (show 0 ≤ 3 * l + 2 ∧ 3 * l + 2 < 48 by omega)]
    by_cases z : m.1 129 0 (3 * l + 2) ≤ 0
    · rw [if_pos z, if_pos z, if_neg (show ¬ ((300 : Int) = 600) by decide)]
    · rw [if_neg z, if_neg z, g_t ⟨l2, l3⟩]
      exact y1
  obtain ⟨c1, x1, x2, x3, x4⟩ := f_rnm c id l
  have ec : F11_checkRinging (some id) (some l) 300 c = if m.1 129 0 (3 * l + 2) ≤ 0 then some c else (F11_place (some id) (-2) (sL (sR c1 0 id 3 none) 0 id 8 (c.2.1 29 l 2))).bind (fun h => some h) := by
    unfold F11_checkRinging
    rw [Option.bind_some, if_pos hg, if_neg (by simp), if_pos rfl, Option.bind_some, g_t (by omega)]
    by_cases z : m.1 129 0 (3 * l + 2) ≤ 0
    · rw [if_pos (z0.2 z), if_pos z]
    · rw [if_neg (fun q => z (z0.1 q)), if_neg z, x1, Option.bind_some, lt_d, g_t (by omega), lt_d, rR_L, x2]
  rw [em, ec]
  by_cases z : m.1 129 0 (3 * l + 2) ≤ 0
  · rw [if_pos z, if_pos z]
    exact ⟨c, m, rfl, rfl, rel_mono (by omega) R, so_rfl c, so_rfl m⟩
  · rw [if_neg z, if_neg z]
    have cR : ∀ k n j, (sR c1 0 id 3 none).2.2 k n j = if k = 0 ∧ n = id ∧ j = 3 then none else if k = 4 ∧ n = l ∧ (j = 12 ∨ j = 13) ∧ c.2.2 k n j = some id then none else c.2.2 k n j := fun k n j => by rw [rR_R, x3]
    have mI : ∀ k j, (sI m1 137 0 (f id) (-1)).1 k 0 j = if k = 137 ∧ j = f id then -1 else if (k = 120 ∨ k = 121) ∧ j = l ∧ m.1 k 0 l = f id then -1 else if k = 125 ∧ j = l ∧ m.1 121 0 l = f id then m.1 12 0 2 else m.1 k 0 j := fun k j => by
      rw [rI_I, y3]
      simp
    have cI : ∀ k n j, ¬ (k = 4 ∧ j = 16) → (sR c1 0 id 3 none).1 k n j = c.1 k n j := fun k n j q => by rw [rR_I, x4, if_neg (fun w => q ⟨w.1, w.2.2.1⟩)]
    have t := t_unr (c := c) (m := m) (c' := sR c1 0 id 3 none) (m' := sI m1 137 0 (f id) (-1)) hf hv hs ⟨hl, l2, l3⟩ (r_h_zn R.2.2.1 id) (fun n j => cI 0 n j (by omega)) (fun n => cI 4 n 6 (by omega)) (fun n j => cI 6 n j (by omega)) (fun n => cI 8 n 2 (by omega)) (fun n j => by rw [rR_L, x2]) cR mI
    have sc : so w_hl c (sR c1 0 id 3 none) := fun k n j q => by
      refine ⟨cI k n j (fun w => by rw [w.1, w.2] at q; cases q), by rw [rR_L, x2], ?_⟩
      rw [cR, if_neg (fun w => by rw [w.1] at q; cases q), if_neg (fun w => by
        have h1 := w.1
        rcases w.2.2.1 with h2 | h2
        · rw [h1, h2] at q; cases q
        · rw [h1, h2] at q; cases q)]
    have sm : so w_hlm m (sI m1 137 0 (f id) (-1)) := fun k n j q => by
      refine ⟨?_, by rw [rI_L, y2], by rw [rI_R, y2]⟩
      rw [rI_I, if_neg (fun w => by rw [w.1] at q; cases q), y3, if_neg (fun w => by rcases w.1 with h1 | h1 <;> (rw [h1] at q; cases q)), if_neg (fun w => by rw [w.1] at q; cases q)]
    have R1 : rel f N (-1) (-1) (-1) none (-1) id B H (sR c1 0 id 3 none) (sI m1 137 0 (f id) (-1)) := by
      refine rel_hl hf R (fun x => ?_) t sc sm (fun n => ?_) (fun s a b => ?_)
      · have := R.2.1 x
        have e16 : (sR c1 0 id 3 none).1 4 x 16 = if x = l ∧ c.2.2 4 l 13 = some id then c.1 11 0 10 else c.1 4 x 16 := by rw [rR_I, x4]; simp
        have e125 : (sI m1 137 0 (f id) (-1)).1 125 0 x = if x = l ∧ c.2.2 4 l 13 = some id then c.1 11 0 10 else m.1 125 0 x := by rw [mI]; simp [e121, hnow]
        have eo : ∀ k, k ≠ 137 → k ≠ 120 → k ≠ 121 → k ≠ 125 → (sI m1 137 0 (f id) (-1)).1 k 0 x = m.1 k 0 x := fun k a b d e => by rw [mI, if_neg (by omega), if_neg (by omega), if_neg (by omega)]
        rw [e16, e125, eo 112 (by decide) (by decide) (by decide) (by decide), eo 113 (by decide) (by decide) (by decide) (by decide), eo 114 (by decide) (by decide) (by decide) (by decide), eo 115 (by decide) (by decide) (by decide) (by decide), eo 116 (by decide) (by decide) (by decide) (by decide), eo 118 (by decide) (by decide) (by decide) (by decide), eo 122 (by decide) (by decide) (by decide) (by decide), eo 123 (by decide) (by decide) (by decide) (by decide), eo 124 (by decide) (by decide) (by decide) (by decide), eo 126 (by decide) (by decide) (by decide) (by decide), eo 130 (by decide) (by decide) (by decide) (by decide), eo 131 (by decide) (by decide) (by decide) (by decide), cI 4 x 4 (by omega), cI 4 x 5 (by omega), cI 4 x 6 (by omega), cI 4 x 7 (by omega), cI 4 x 8 (by omega), cI 4 x 9 (by omega), cI 4 x 10 (by omega), cI 4 x 14 (by omega), cI 4 x 15 (by omega), cI 4 x 17 (by omega), cI 4 x 18 (by omega), cI 4 x 19 (by omega)]
        obtain ⟨r1, r2, r3, r4, r5, r6, r7, r8, r9, r10, r11, r12, r13⟩ := this
        exact ⟨r1, r2, r3, r4, r5, r6, r7, r8, r9, fun w1 w2 => by rw [r10 w1 w2], r11, r12, r13⟩
      · rw [cI 0 n 9 (by omega), cI 0 n 14 (by omega), cR, if_neg (by omega), if_neg (by omega)]; simp
      · rw [mI, mI, mI]
        by_cases w : s = f id
        · subst w
          have : m.1 133 0 (f id) = 2 := by omega
          simp [this]
        · simp [w]
    have hv1 : lv (sR c1 0 id 3 none) id := ⟨hv.1, hv.2.1, by rw [cI 0 id 9 (by omega)]; exact hv.2.2⟩
    have R3 := rel_key (x := c.2.1 29 l 2) hf R1
    have eo : ∀ k j, k ≠ 137 → k ≠ 120 → k ≠ 121 → k ≠ 125 → (sI m1 137 0 (f id) (-1)).1 k 0 j = m.1 k 0 j := fun k j a b d e => by rw [mI, if_neg (by omega), if_neg (by omega), if_neg (by omega)]
    have f4 : k_R (c.2.1 29 l 2) ((sI m1 137 0 (f id) (-1)).1 129 0 (3 * l + 2)) (fun j => (sI m1 137 0 (f id) (-1)).1 128 0 (12 * (3 * l + 2) + j)) := by
      simp only [eo 129 _ (by decide) (by decide) (by decide) (by decide), eo 128 _ (by decide) (by decide) (by decide) (by decide)]
      exact f3
    have i12 : (sL (sR c1 0 id 3 none) 0 id 8 (c.2.1 29 l 2)).1 0 id 12 = c.1 0 id 12 := by rw [rL_I, cI 0 id 12 (by omega)]
    have i9 : (sL (sR c1 0 id 3 none) 0 id 8 (c.2.1 29 l 2)).1 0 id 9 = 2 := by rw [rL_I, cI 0 id 9 (by omega), hs]
    obtain ⟨o, c2, m2, a1, a2, a3, a4, a5, a6, a7, a8, a9, a10, a11⟩ := p_on (x := c.2.1 29 l 2) (c := sL (sR c1 0 id 3 none) 0 id 8 (c.2.1 29 l 2)) hf (F12_placesN 8) (id := id) (fi := 3 * l + 2) (by omega) ⟨hv.1, hv.2.1, by rw [i9]; decide⟩ R3 (by rw [rI_s]) (by rw [rL_R, cR, if_neg (by omega), if_neg (by omega), hg]) (by rw [i12]; exact b_k1.2) (by rw [i9]; decide) (by simp [rL_L]) f4
    have step : F11_place (some id) (-2) (sL (sR c1 0 id 3 none) 0 id 8 (c.2.1 29 l 2)) = F11_place_5 99999 (some id) o 1 c2 := by
      show F11_place_5b (F11_place_5 99999) (some id) (-2) 0 (sL (sR c1 0 id 3 none) 0 id 8 (c.2.1 29 l 2)) = _
      unfold F11_place_5b F11_place_135
      rw [if_neg (by omega), Option.bind_some, if_pos rfl, a1, Option.bind_some, w32_of (by omega) (by omega)]
      rfl
    have gon : F12_ringsLong_208 (f id) l m1 = (F12_goesOn (F12_placesN 8) (f id) (3 * l + 2) (sI m1 137 0 (f id) (-1))).bind (fun h => some h) := by
      unfold F12_ringsLong_208
      rw [w1, w2, gon_id]
    have sc2 : so w_C c c2 := so_tr (so_tr (so_mono (fun k j q => by simp [w_C] at q; simp [w_hl]; omega) (show so (fun k j => w_hl k j && !(k == 4 && (j == 4 || j == 5 || j == 6 || j == 8 || j == 9 || j == 10 || j == 18 || j == 19)) && (k != 4 || (j == 7 || j == 11 || j == 12 || j == 13 || j == 14 || j == 15 || j == 16 || j == 17))) c (sR c1 0 id 3 none) from fun k n j q => by
      refine ⟨cI k n j (fun w => by rw [w.1, w.2] at q; cases q), by rw [rR_L, x2], ?_⟩
      rw [cR, if_neg (fun w => by rw [w.1] at q; simp [w_hl] at q), if_neg (fun w => by
        have h1 := w.1
        rcases w.2.2.1 with h2 | h2
        · rw [h1, h2] at q; simp [w_hl] at q
        · rw [h1, h2] at q; simp [w_hl] at q)])) (so_L (so_rfl _) rfl _ _)) a4
    have sm2 : so w_M m m2 := so_tr (fun k n j q => by
      refine ⟨?_, by rw [rI_L, y2], by rw [rI_R, y2]⟩
      rw [rI_I, if_neg (fun w => by rw [w.1] at q; cases q), y3, if_neg (fun w => by rcases w.1 with h1 | h1 <;> (rw [h1] at q; cases q)), if_neg (fun w => by rw [w.1] at q; cases q)]) a5
    rw [step, gon]
    rcases a11 with ⟨b1, b2⟩ | ⟨rfl, b2, r', b3, b4⟩
    · rw [b2]
      obtain ⟨c', m', e1, e2, e3, e4, e5⟩ := p_bad hf (by omega) (o := o) (by omega) a3 a2
      exact ⟨c', m', by rw [f_out 99998 (by omega) (by omega), e1]; rfl, by rw [e2]; rfl, rel_mono (by omega) e3, so_tr sc2 e4, so_tr sm2 e5⟩
    · rw [b4]
      have i6 : c2.1 0 id 12 = c.1 0 id 12 + 1 := by rw [a10, i12]
      have m138 : m2.1 138 0 (f id) = -1 := by
        have g := a2.2.2.1.2.2.2.2.2.1 id a3
        rcases g with ⟨g, _⟩ | ⟨_, _, g3, g4⟩
        · exact g
        · rw [b2.2.2.2.1] at g4; cases g4
      have c2A : c2.2.2 0 id 1 = c.2.2 0 id 1 := by rw [a7, rL_R, cR, if_neg (by omega), if_neg (by omega)]
      have c2z : c2.1 0 id 11 = c.1 0 id 11 := by rw [a8, rL_I, cI 0 id 11 (by omega)]
      have m2z : m2.1 143 0 (f id) = m.1 143 0 (f id) := by rw [a9, eo 143 _ (by decide) (by decide) (by decide) (by decide)]
      obtain ⟨c', m', e1, e2, e3, e4, e5⟩ := p_place hf (by omega) 8 99999 c2 m2 1 r' b2 b3 (fun w => Or.inr ⟨by rw [c2z, m2z]; have := b_zn (by rw [c2A] at w; exact w); omega, by rw [c2z]; exact b_zr.1⟩) (by rw [a6, i9]; decide) m138 (by omega) (by rw [i6]; omega) (by rw [i6]; omega) (by omega)
      exact ⟨c', m', by rw [e1]; rfl, by rw [e2]; rfl, e3, so_tr sc2 e4, so_tr sm2 e5⟩
def cb (id : Int) (c : JM) : Option JM := (F11_causeByTime (some id) (w32 (c.1 11 0 10 - c.1 0 id 10)) c).bind (fun q2 => F11_endIf (some id) q2.1 q2.2)
def cs (id : Int) (c : JM) : Option JM := if c.1 0 id 9 = 2 then (if c.2.2 0 id 3 = none then cb id c else F11_checkRinging (some id) (c.2.2 0 id 3) (w32 (c.1 11 0 10 - c.1 0 id 10)) c) else cb id c
theorem cb_end {id v : Int} (h : F11_causeByTime (some id) (w32 (c.1 11 0 10 - c.1 0 id 10)) c = some (v, c)) : cb id c = if v ≤ 0 then some c else F11_end (some id) v 0 c := by
  unfold cb F11_endIf
  rw [h, Option.bind_some]
  by_cases z : v ≤ 0
  · rw [if_pos z, if_pos z]
  · rw [if_neg z, if_neg z]
    cases F11_end (some id) v 0 c <;> rfl
/-- one call's time -/
theorem p_time (hf : f_ok f) (hB : B + 60 < 2000000000) {id : Int} (hv : lv c id) (R : relN f N B H c m) :
    ∃ c' m', cs id c = some c' ∧ F12_times (f id) m = some m' ∧ relN f N (B + 6) H c' m' ∧ so w_C c c' ∧ so w_M m m' := by
  have i0 := hv.1
  have hfr := hf.2.2.1 id hv.1 (by have := hv.2.1; omega)
  have b_st := R.2.2.1.1 id hv.1 hv.2.1
  have b_fr := R.2.2.1.2.2.2.2.2.2.2.2.2.1 id hv
  have b_sa := R.2.2.1.2.2.2.1 id hv
  have b_sb := R.2.2.1.2.2.2.2.1 id hv
  have b_gp := R.2.2.1.2.2.2.2.2.1 id hv
  have b_zr := R.2.2.1.2.2.2.2.2.2.2.2.2.2.2.2.2.2.2.2.2.2.2.2.2.2.2.2.2.2.2.2.2.2.2.2.2 id hv
  have b_zn := R.2.2.1.2.2.2.2.2.2.2.2.2.2.2.2.1 id hv
  have hnow : m.1 12 0 2 = c.1 11 0 10 := R.1.2.2.2.2.2.2.2.1
  have R0 : relN f N (B + 6) H c m := rel_mono (by omega) R
  have en : ∀ why, 0 < why → why < 256 → ∃ c' m', F11_end (some id) why 0 c = some c' ∧ (F12_over (f id) why (-1) m).bind (fun h => some h) = some m' ∧ relN f N (B + 6) H c' m' ∧ so w_C c c' ∧ so w_M m m' := fun why h1 h2 => by
    obtain ⟨c', m', e1, e2, e3, e4, e5, _⟩ := p_end0 (why := why) hf (by omega) ⟨by omega, h2⟩ hv R
    exact ⟨c', m', e1, by rw [e2]; rfl, rel_mono (by omega) e3, e4, e5⟩
  have hv2 := hv.2.2
  unfold F12_times
  rw [g_t hfr, lt_d, g_t hfr, b_st.1, hnow, b_fr.1]
  generalize ht : w32 (c.1 11 0 10 - c.1 0 id 10) = t
  -- a state that ends at a time
  have sim : ∀ (T why : Int), 0 < why → why < 256 → F11_causeByTime (some id) (w32 (c.1 11 0 10 - c.1 0 id 10)) c = some (if t = T then why else 0, c) → c.1 0 id 9 ≠ 2 → ∃ c' m', cs id c = some c' ∧ (if t = T then (F12_over (f id) why (-1) m).bind (fun h => some h) else some m) = some m' ∧ relN f N (B + 6) H c' m' ∧ so w_C c c' ∧ so w_M m m' := fun T why h1 h2 h3 h4 => by
    have h5 := cb_end h3
    unfold cs
    rw [if_neg h4, h5]
    by_cases z : t = T
    · rw [if_pos z, if_pos z, if_neg (by omega)]
      exact en why h1 h2
    · rw [if_neg z, if_neg z, if_pos (by simp)]
      exact ⟨c, m, rfl, rfl, R0, so_rfl c, so_rfl m⟩
  rcases (by omega : c.1 0 id 9 = 0 ∨ c.1 0 id 9 = 1 ∨ c.1 0 id 9 = 2 ∨ c.1 0 id 9 = 3 ∨ c.1 0 id 9 = 4) with s | s | s | s | s
  · rw [if_pos s]
    refine sim 500 1 (by decide) (by decide) ?_ (by omega)
    unfold F11_causeByTime
    rw [Option.bind_some, if_pos s, ht]
    split <;> rfl
  · rw [if_neg (by omega), if_pos s]
    refine sim 500 6 (by decide) (by decide) ?_ (by omega)
    unfold F11_causeByTime
    rw [Option.bind_some, if_neg (by omega), if_pos s, ht]
    split <;> rfl
  · rw [if_neg (by omega), if_neg (by omega), if_pos s, g_t hfr]
    have hc : F11_causeByTime (some id) (w32 (c.1 11 0 10 - c.1 0 id 10)) c = some (0, c) := by
      unfold F11_causeByTime
      rw [Option.bind_some, if_neg (by omega), if_neg (by omega), if_neg (by omega), if_neg (by omega)]
    have no : c.2.2 0 id 3 = none → m.1 137 0 (f id) < 0 ∨ 16 ≤ m.1 137 0 (f id) := fun q => by
      rcases b_sb with ⟨a, _⟩ | ⟨_, _, a, _⟩ | ⟨a, _⟩ | ⟨a, _⟩ | ⟨a, _⟩
      · omega
      · rw [q] at a; cases a
      · omega
      · omega
      · omega
    unfold cs
    rw [if_pos s]
    cases hlb : c.2.2 0 id 3 with
    | none =>
      have e1 : F12_isLineSide (m.1 137 0 (f id)) m = some (0, m) := by
        unfold F12_isLineSide F12_isLineSide_14
        rcases no hlb with q | q
        · rw [if_pos q]
        · rw [if_neg (by omega), if_pos q]
      rw [if_pos rfl, cb_end hc, if_pos (by simp), e1, Option.bind_some, if_pos rfl]
      exact ⟨c, m, rfl, rfl, R0, so_rfl c, so_rfl m⟩
    | some l =>
      have hl7 : m.1 137 0 (f id) = l ∧ 0 ≤ l ∧ l < 16 := by
        have b_hm := R.2.2.1.2.2.1 id hv
        rcases b_sb with ⟨_, a, _⟩ | ⟨a1, a2, a, _⟩ | ⟨_, _, a, _⟩ | ⟨_, _, a, _⟩ | ⟨_, _, a, _⟩
        · rw [hlb] at a; cases a
        · rw [hlb] at a; cases a; omega
        · rw [hlb] at a; cases a
        · rw [hlb] at a; cases a
        · rw [hlb] at a; cases a
      have e1 : F12_isLineSide (m.1 137 0 (f id)) m = some (1, m) := by
        unfold F12_isLineSide
        rw [if_neg (by omega), if_neg (by omega)]
      rw [if_neg (by simp), ht, e1, Option.bind_some, if_neg (by simp)]
      dsimp only
      by_cases g8 : m.1 138 0 (f id) = -1
      · have hg : c.2.2 0 id 5 = none := by
          rcases b_gp with ⟨_, a⟩ | ⟨a, _⟩
          · exact a (by omega) (by omega)
          · omega
        by_cases t3 : t = 300
        · obtain ⟨c', m', e1, e2, e3, e4, e5⟩ := p_noans hf hB hv s hlb g8 R
          rw [t3, e1, e2, Option.bind_some]
          exact ⟨c', m', rfl, rfl, e3, e4, e5⟩
        · have ec : F11_checkRinging (some id) (some l) t c = if t = 600 then F11_end (some id) 4 0 c else some c := by
            unfold F11_checkRinging
            rw [Option.bind_some, if_pos hg, if_neg t3]
            split
            · cases F11_end (some id) 4 0 c <;> rfl
            · rfl
          have em : F12_ringsLong (f id) t m = if t = 600 then (F12_over (f id) 4 (-1) m).bind (fun h => some h) else some m := by
            unfold F12_ringsLong F12_ringsLong_221
            rw [g_t hfr, lt_d, g_t hfr, if_pos g8, if_neg t3]
          rw [ec, em]
          by_cases t6 : t = 600
          · rw [if_pos t6, if_pos t6]
            obtain ⟨c', m', e1, e2, e3, e4, e5⟩ := en 4 (by decide) (by decide)
            rw [e1, e2, Option.bind_some]
            exact ⟨c', m', rfl, rfl, e3, e4, e5⟩
          · rw [if_neg t6, if_neg t6, Option.bind_some]
            exact ⟨c, m, rfl, rfl, R0, so_rfl c, so_rfl m⟩
      · obtain ⟨g1, g2, g3, g4⟩ : 0 ≤ m.1 138 0 (f id) ∧ m.1 138 0 (f id) ≤ 2 ∧ c.1 0 id 9 = 2 ∧ c.2.2 0 id 5 = some (3 * m.1 135 0 (f id) + m.1 138 0 (f id)) := by
          rcases b_gp with ⟨a, _⟩ | a
          · exact absurd a g8
          · exact a
        by_cases t3 : t = 300
        · obtain ⟨c', m', e1, e2, e3, e4, e5⟩ := p_back hf (by omega) hv s hlb rfl ⟨g1, g2⟩ R
          rw [t3, e1, e2, Option.bind_some]
          exact ⟨c', m', rfl, rfl, rel_mono (by omega) e3, e4, e5⟩
        · have ec : F11_checkRinging (some id) (some l) t c = some c := by
            unfold F11_checkRinging
            rw [Option.bind_some, if_neg (by rw [g4]; simp), if_neg t3]
          have em : F12_ringsLong (f id) t m = some m := by
            unfold F12_ringsLong
            rw [g_t hfr, lt_d, g_t hfr, if_neg g8, if_neg t3]
          rw [ec, em, Option.bind_some]
          exact ⟨c, m, rfl, rfl, R0, so_rfl c, so_rfl m⟩
  · rw [if_neg (by omega), if_neg (by omega), if_neg (by omega), if_neg (by omega), g_t hfr]
    unfold cs
    rw [if_neg (by omega)]
    have x1 : w32 (c.1 0 id 11 * 4) = 4 * c.1 0 id 11 := by rw [w32_of (by omega) (by omega)]; omega
    have x2 : w32 (4 * c.1 0 id 11 + 1) = 4 * c.1 0 id 11 + 1 := w32_of (by omega) (by omega)
    obtain ⟨g1, g2, g3, g4, g5, g6, g7, g8, _⟩ := R.2.2.2.2.2.2.2.1.1 (c.1 0 id 11) b_zr.1 (by omega)
    have h108 : ∀ v c1, F3_isStep (some id) (w32 (c.1 11 0 10 - c.1 0 id 10)) c = some (v, c1) → F11_causeByTime (some id) (w32 (c.1 11 0 10 - c.1 0 id 10)) c = if v = 0 then some (0, c1) else (F3_charge (some id) 0 (c1.1 11 0 10) c1).bind (fun q3 => if q3.1 = 0 then some (5, q3.2) else some (0, q3.2)) := fun v c1 h => by
      unfold F11_causeByTime F11_causeByTime_108
      rw [Option.bind_some, if_neg (by omega), if_neg (by omega), if_pos s, h, Option.bind_some]
    rcases b_sa with ⟨a1, a2, a3, a4⟩ | ⟨a1, a2, a3, a4⟩
    · have b_hm := R.2.2.1.2.2.1 id hv
      have e1 : F12_isLineSide (m.1 136 0 (f id)) m = some (1, m) := by
        unfold F12_isLineSide
        rw [if_neg (by omega), if_neg (by omega)]
      have hz : m.1 143 0 (f id) = c.1 0 id 11 := by have := b_zn (by rw [a1]; simp); omega
      have es : F3_isStep (some id) t c = some (if 0 < t ∧ j_rem t (m.1 187 0 (c.1 0 id 11)) = 0 then 1 else 0, c) := by
        unfold F3_isStep F3_isStep_39
        rw [Option.bind_some, x1, x2, g_t (by omega), lt_d, if_neg (by rw [a1]; simp), g2]
        by_cases t0 : t ≤ 0
        · rw [if_pos t0, if_neg (by omega)]
        · rw [if_neg t0, if_neg (by omega), g_t (by omega)]
          by_cases t1 : j_rem t (m.1 187 0 (c.1 0 id 11)) = 0
          · rw [if_pos t1, if_pos ⟨by omega, t1⟩]
          · rw [if_neg t1, if_neg (fun z => t1 z.2)]
      rw [← ht] at es
      have h9 := h108 _ _ es
      rw [e1, Option.bind_some, if_neg (by simp)]
      dsimp only
      rw [hz]
      by_cases st : 0 < t ∧ j_rem t (m.1 187 0 (c.1 0 id 11)) = 0
      · rw [ht, if_pos st, if_neg (by simp)] at h9
        have hpr : F12_price (c.1 0 id 11) m = some (pr m (c.1 0 id 11), m) := by
          have t := R.1.2.2.2.2.2.2.2
          unfold F12_price pr
          rw [i_rem (by omega) (by omega) (by omega) (by omega), g_t (by omega), g_t (by omega)]
          split <;> rfl
        obtain ⟨ok, c1, c', m', y1, y2, y3, y4, y5, y6⟩ := p_pay (fi := 0) (am := pr m (c.1 0 id 11)) hf (by omega) hv a1 s R (Or.inl ⟨rfl, by rw [hz]⟩)
        rw [y1, Option.bind_some] at h9
        rw [if_neg (by omega), g_t hfr, g_t (by omega), g_t (by omega), if_pos st.2, g_t hfr, hpr, Option.bind_some, y3, Option.bind_some]
        refine ⟨c', m', ?_, rfl, rel_mono (by omega) y4, y5, y6⟩
        unfold cb F11_endIf
        rw [ht, h9]
        rcases y2 with ⟨rfl, rfl⟩ | ⟨rfl, y2⟩
        · rw [if_neg (by simp), Option.bind_some, if_pos (by simp)]
        · rw [if_pos rfl, Option.bind_some, if_neg (by simp), y2]; rfl
      · rw [ht, if_neg st, if_pos rfl] at h9
        rw [← ht] at h9
        have h10 := cb_end h9
        rw [if_pos (by simp)] at h10
        rw [h10]
        refine ⟨c, m, rfl, ?_, R0, so_rfl c, so_rfl m⟩
        by_cases t0 : t ≤ 0
        · rw [if_pos t0]
        · rw [if_neg t0, g_t hfr, g_t (by omega), g_t (by omega), if_neg (fun q => st ⟨by omega, q⟩)]
    · have e1 : F12_isLineSide (m.1 136 0 (f id)) m = some (0, m) := by
        unfold F12_isLineSide F12_isLineSide_14
        rw [if_neg (by omega), if_pos (by omega)]
      have es : F3_isStep (some id) (w32 (c.1 11 0 10 - c.1 0 id 10)) c = some (0, c) := by
        unfold F3_isStep F3_isStep_39
        rw [Option.bind_some, x1, x2, g_t (by omega), lt_d, if_pos a1]
      have h9 := h108 _ _ es
      rw [if_pos rfl] at h9
      have h10 := cb_end h9
      rw [if_pos (by simp)] at h10
      rw [h10, e1, Option.bind_some, if_pos rfl]
      exact ⟨c, m, rfl, rfl, R0, so_rfl c, so_rfl m⟩
  · rw [if_neg (by omega), if_neg (by omega), if_neg (by omega), if_pos s]
    refine sim 3000 4 (by decide) (by decide) ?_ (by omega)
    unfold F11_causeByTime
    rw [Option.bind_some, if_neg (by omega), if_neg (by omega), if_neg (by omega), if_pos s, ht]
    split <;> rfl
/-- the reference looks for the next call -/
def cand (m : JM) (last s : Int) : Prop := m.1 133 0 s ≠ -1 ∧ last < m.1 134 0 s
theorem sr_loop (k4 : Int → Int → JM → Option JM) {last : Int} : ∀ (d : Nat) (fu : Nat) (i b : Int), 0 ≤ i → i + d = 80 → d < fu → ((b = -1 ∧ ∀ s, 0 ≤ s → s < i → ¬ cand m last s) ∨ (0 ≤ b ∧ b < 80 ∧ cand m last b ∧ ∀ s, 0 ≤ s → s < i → cand m last s → m.1 134 0 b ≤ m.1 134 0 s)) →
    ∃ b', F12_timesOfAll_13 k4 fu last b i m = F12_timesOfAll_82 k4 last b' (if b' = -1 then 0 else 1) m ∧ ((b' = -1 ∧ ∀ s, 0 ≤ s → s < 80 → ¬ cand m last s) ∨ (0 ≤ b' ∧ b' < 80 ∧ cand m last b' ∧ ∀ s, 0 ≤ s → s < 80 → cand m last s → m.1 134 0 b' ≤ m.1 134 0 s))
  | _, 0, _, _, _, _, h, _ => by omega
  | d, fu + 1, i, b, i0, hd, hfu, inv => by
    show ∃ b', F12_timesOfAll_13b k4 (F12_timesOfAll_13 k4 fu) last b i m = _ ∧ _
    unfold F12_timesOfAll_13b
    by_cases c1 : 80 ≤ i
    · have : i = 80 := by omega
      subst this
      refine ⟨b, ?_, inv⟩
      rw [if_pos (by simp)]
      by_cases z : b = -1
      · rw [if_pos z, if_pos z]
      · rw [if_neg z, if_neg z]
    · have w1 : w32 (i + 1) = i + 1 := w32_of (by omega) (by omega)
      have ih := sr_loop k4 (last := last) (d - 1) fu (i + 1)
      unfold F12_timesOfAll_63 F12_timesOfAll_66
      rw [if_neg c1, g_t (by omega), g_t (by omega), g_t (by omega), w1]
      have skip : ¬ cand m last i → ∃ b', F12_timesOfAll_13 k4 fu last b (i + 1) m = F12_timesOfAll_82 k4 last b' (if b' = -1 then 0 else 1) m ∧ ((b' = -1 ∧ ∀ s, 0 ≤ s → s < 80 → ¬ cand m last s) ∨ (0 ≤ b' ∧ b' < 80 ∧ cand m last b' ∧ ∀ s, 0 ≤ s → s < 80 → cand m last s → m.1 134 0 b' ≤ m.1 134 0 s)) := fun hn => by
        refine ih b (by omega) (by omega) (by omega) ?_
        rcases inv with ⟨z1, z2⟩ | ⟨z1, z2, z3, z4⟩
        · refine Or.inl ⟨z1, fun s a b' => ?_⟩
          by_cases w : s = i
          · rw [w]; exact hn
          · exact z2 s a (by omega)
        · refine Or.inr ⟨z1, z2, z3, fun s a b' q => ?_⟩
          by_cases w : s = i
          · rw [w] at q; exact absurd q hn
          · exact z4 s a (by omega) q
      have take : cand m last i → (∀ s, 0 ≤ s → s < i → cand m last s → m.1 134 0 i ≤ m.1 134 0 s) → ∃ b', F12_timesOfAll_13 k4 fu last i (i + 1) m = F12_timesOfAll_82 k4 last b' (if b' = -1 then 0 else 1) m ∧ ((b' = -1 ∧ ∀ s, 0 ≤ s → s < 80 → ¬ cand m last s) ∨ (0 ≤ b' ∧ b' < 80 ∧ cand m last b' ∧ ∀ s, 0 ≤ s → s < 80 → cand m last s → m.1 134 0 b' ≤ m.1 134 0 s)) := fun hc hm => by
        refine ih i (by omega) (by omega) (by omega) (Or.inr ⟨i0, by omega, hc, fun s a b' q => ?_⟩)
        by_cases w : s = i
        · rw [w]; exact Int.le_refl _
        · exact hm s a (by omega) q
      by_cases c2 : m.1 133 0 i = -1
      · rw [if_pos c2]
        exact skip (fun z => z.1 c2)
      · rw [if_neg c2]
        by_cases c3 : m.1 134 0 i ≤ last
        · rw [if_pos c3]
          exact skip (fun z => by have := z.2; omega)
        · have hc : cand m last i := ⟨c2, by omega⟩
          rw [if_neg c3]
          rcases inv with ⟨z1, z2⟩ | ⟨z1, z2, z3, z4⟩
          · rw [if_pos z1]
            exact take hc (fun s a b' q => absurd q (z2 s a b'))
          · rw [if_neg (by omega), g_t (by omega)]
            by_cases c4 : m.1 134 0 b ≤ m.1 134 0 i
            · rw [if_pos c4]
              refine ih b (by omega) (by omega) (by omega) (Or.inr ⟨z1, z2, z3, fun s a b' q => ?_⟩)
              by_cases w : s = i
              · rw [w]; exact c4
              · exact z4 s a (by omega) q
            · rw [if_neg c4]
              refine take hc (fun s a b' q => ?_)
              have := z4 s a b' q
              omega
theorem rel_L {h : Int} {L L' : Int → Prop} (R : rel f N z1 z2 X sec Y zd B (h, L) c m) (hl : ∀ a, lv c a → L' a) : rel f N z1 z2 X sec Y zd B (h, L') c m := by
  obtain ⟨R1, R2, R3, R4, R5, R6, R7, R8, R9, R10⟩ := R
  obtain ⟨h1, h2, h3, h4, h5, h6, h7, h8, h9⟩ := R7
  exact ⟨R1, R2, R3, R4, R5, R6, ⟨h1, h2, h3, h4, h5, h6, h7, h8, hl⟩, R8, R9, R10⟩
theorem tm_loop (hf : f_ok f) {h : Int} {L : Int → Prop} : ∀ (d : Nat) (fu fu' : Nat) (i last B : Int) (c m : JM), B + 6 * d + 60 < 2000000000 → relN f N B (h, L) c m → 0 ≤ i → i + d = c.1 11 0 11 → d < fu → d + 1 < fu' → (∀ a j, 0 ≤ j → j < c.1 11 0 11 → c.2.2 40 0 j = some a → lv c a → (i ≤ j → last < m.1 134 0 (f a)) ∧ (j < i → m.1 134 0 (f a) ≤ last)) →
    ∃ c' m', F11_checkTimes_2 fu i c = some c' ∧ F12_timesOfAll_4 fu' last 1 m = some m' ∧ relN f N (B + 6 * d) (h, L) c' m' ∧ so w_C c c' ∧ so w_M m m'
  | _, 0, _, _, _, _, _, _, _, _, _, _, h, _, _ => by omega
  | _, _ + 1, 0, _, _, _, _, _, _, _, _, _, _, h, _ => by omega
  | _, _ + 1, 1, _, _, _, _, _, _, _, _, _, _, h, _ => by omega
  | d, fu + 1, fu' + 2, i, last, B, c, m, hB, R, i0, hd, h1, h2, inv => by
    have hA := R.2.2.2.2.2.2.1
    have h72 : c.1 11 0 11 ≤ 72 := by have := hA.1; omega
    have H1 : ∀ c2 : JM, ∀ i2, F11_checkTimes_2 (fu + 1) i2 c2 = F11_checkTimes_2b (F11_checkTimes_2 fu) i2 c2 := fun _ _ => rfl
    by_cases c1 : c.1 11 0 11 ≤ i
    · have hd0 : d = 0 := by omega
      refine ⟨c, m, ?_, ?_, rel_mono (by omega) R, so_rfl c, so_rfl m⟩
      · rw [H1]
        unfold F11_checkTimes_2b
        rw [if_pos c1]
      · show F12_timesOfAll_4b (F12_timesOfAll_4 (fu' + 1)) last 1 m = some m
        unfold F12_timesOfAll_4b
        rw [if_neg (by simp)]
        obtain ⟨b', e1, e2⟩ := sr_loop (F12_timesOfAll_4 (fu' + 1)) (m := m) (last := last) 80 j_fu 0 (-1) (by omega) (by omega) (by unfold j_fu; omega) (Or.inl ⟨rfl, fun s a b => by omega⟩)
        rw [e1]
        rcases e2 with ⟨rfl, _⟩ | ⟨z1, z2, z3, z4⟩
        · rw [if_pos rfl]
          unfold F12_timesOfAll_82
          rw [if_pos rfl]
          show F12_timesOfAll_4b (F12_timesOfAll_4 fu') last 0 m = some m
          unfold F12_timesOfAll_4b
          rw [if_pos rfl]
        · exfalso
          obtain ⟨a, a0, a1, a2⟩ := hf.2.2.2 b' z1 z2
          have hst := R.2.2.1.1 a
          have hsx := R.2.2.1.2.1 a
          by_cases w : a < 72
          · have la : lv c a := ⟨a0, w, by rw [← (hst a0 w).1, a2]; exact z3.1⟩
            obtain ⟨j, j0, j1, j2⟩ := hA.2.2.2.2.1 a la
            have := (inv a j j0 j1 j2 la).2 (by omega)
            rw [a2] at this
            have := z3.2
            omega
          · exact z3.1 (by rw [← a2]; exact hsx (by omega) a1)
    · obtain ⟨a, ha, a0, a72⟩ := hA.2.1 i i0 (by omega)
      have w1 : w32 (i + 1) = i + 1 := w32_of (by omega) (by omega)
      have step : F11_checkTimes_2 (fu + 1) i c = (cs a c).bind (fun h' => F11_checkTimes_2 fu (i + 1) h') := by
        rw [H1]
        unfold F11_checkTimes_2b F11_checkTimes_53 F11_checkTimes_72 cs cb
        rw [if_neg c1, g_t (by omega), ha, Option.bind_some, w1]
        by_cases s2 : c.1 0 a 9 = 2
        · rw [if_pos s2, if_pos s2]
          by_cases s3 : c.2.2 0 a 3 = none
          · rw [if_pos s3, if_pos s3, Option.bind_some, Option.bind_assoc]
          · rw [if_neg s3, if_neg s3]
        · rw [if_neg s2, if_neg s2, Option.bind_some, Option.bind_assoc]
      rw [step]
      by_cases la : lv c a
      · -- it lives: the reference takes it too
        have hia := inv a i i0 (by omega) ha la
        have la2 := la.1
        obtain ⟨c2, m2, t1, t2, t3, t4, t5⟩ := p_time (H := (h, lv c)) hf (by omega) la (rel_L R (fun _ q => q))
        have hal : ∀ b, lv c2 b → lv c b := t3.2.2.2.2.2.2.1.2.2.2.2.2.2.2.2
        have R2 : relN f N (B + 6) (h, L) c2 m2 := rel_L t3 (fun b q => hA.2.2.2.2.2.2.2.2 b (hal b q))
        have held : c2.1 11 0 11 = c.1 11 0 11 := (t4 11 0 11 rfl).1
        have c40 : ∀ j, c2.2.2 40 0 j = c.2.2 40 0 j := fun j => (t4 40 0 j rfl).2.2
        have m134 : ∀ j, m2.1 134 0 j = m.1 134 0 j := fun j => (t5 134 0 j rfl).1
        obtain ⟨c', m', y1, y2, y3, y4, y5⟩ := tm_loop hf (d - 1) fu (fu' + 1) (i + 1) (m.1 134 0 (f a)) (B + 6) c2 m2 (by omega) R2 (by omega) (by rw [held]; omega) (by omega) (by omega) (fun b j j0 j1 j2 lb => by
          rw [held] at j1
          rw [c40] at j2
          rw [m134]
          have lb' := hal b lb
          constructor
          · intro q
            exact hA.2.2.2.2.2.1 i j a b i0 (by omega) j1 ha j2 la lb'
          · intro q
            by_cases w : j = i
            · subst w; rw [ha] at j2; cases j2; exact Int.le_refl _
            · have := (inv b j j0 j1 j2 lb').2 (by omega)
              have := hia.1 (by omega)
              omega)
        refine ⟨c', m', by rw [t1, Option.bind_some, y1], ?_, rel_mono (by omega) y3, so_tr t4 y4, so_tr t5 y5⟩
        show F12_timesOfAll_4b (F12_timesOfAll_4 (fu' + 1)) last 1 m = some m'
        unfold F12_timesOfAll_4b
        rw [if_neg (by simp)]
        obtain ⟨b', e1, e2⟩ := sr_loop (F12_timesOfAll_4 (fu' + 1)) (m := m) (last := last) 80 j_fu 0 (-1) (by omega) (by omega) (by unfold j_fu; omega) (Or.inl ⟨rfl, fun s a b => by omega⟩)
        have hfr := hf.2.2.1 a a0 (by omega)
        have ca : cand m last (f a) := ⟨by rw [(R.2.2.1.1 a a0 a72).1]; exact la.2.2, hia.1 (by omega)⟩
        rw [e1]
        rcases e2 with ⟨rfl, z⟩ | ⟨z1, z2, z3, z4⟩
        · exact absurd ca (z (f a) hfr.1 hfr.2)
        · have hb : b' = f a := by
            obtain ⟨b, b0, b1, b2⟩ := hf.2.2.2 b' z1 z2
            have hst := R.2.2.1.1 b
            have hsx := R.2.2.1.2.1 b
            by_cases w : b < 72
            · have lb : lv c b := ⟨b0, w, by rw [← (hst b0 w).1, b2]; exact z3.1⟩
              obtain ⟨j, j0, j1, j2⟩ := hA.2.2.2.2.1 b lb
              have q1 := inv b j j0 j1 j2 lb
              rw [b2] at q1
              have q2 := z3.2
              have q3 := z4 (f a) hfr.1 hfr.2 ca
              rcases Int.lt_trichotomy i j with q | q | q
              · have := hA.2.2.2.2.2.1 i j a b i0 q j1 ha j2 la lb
                rw [b2] at this
                omega
              · subst q; rw [ha] at j2; cases j2; exact b2.symm
              · have := q1.2 q
                omega
            · exact absurd (by rw [← b2]; exact hsx (by omega) b1) z3.1
          subst hb
          have hn1 : f a ≠ -1 := hf.2.1 a
          rw [if_neg hn1]
          unfold F12_timesOfAll_82
          rw [if_neg (by simp), g_t hfr, lt_d, t2, Option.bind_some]
          exact y2
      · -- it is over
        have s1 : c.1 0 a 9 = -1 := by
          by_cases w : c.1 0 a 9 = -1
          · exact w
          · exact absurd ⟨a0, a72, w⟩ la
        have ecs : cs a c = some c := by
          unfold cs
          rw [if_neg (by omega)]
          have : F11_causeByTime (some a) (w32 (c.1 11 0 10 - c.1 0 a 10)) c = some (0, c) := by
            unfold F11_causeByTime
            rw [Option.bind_some, if_neg (by omega), if_neg (by omega), if_neg (by omega), if_neg (by omega)]
          rw [cb_end this, if_pos (by simp)]
        obtain ⟨c', m', y1, y2, y3, y4, y5⟩ := tm_loop hf (d - 1) fu (fu' + 2) (i + 1) last B c m (by omega) R (by omega) (by omega) (by omega) (by omega) (fun b j j0 j1 j2 lb => by
          have := inv b j j0 j1 j2 lb
          refine ⟨fun q => this.1 (by omega), fun q => ?_⟩
          by_cases w : j = i
          · subst w; rw [ha] at j2; cases j2; exact absurd lb la
          · exact this.2 (by omega))
        exact ⟨c', m', by rw [ecs, Option.bind_some, y1], y2, rel_mono (by omega) y3, y4, y5⟩
/-- all times -/
theorem p_times (hf : f_ok f) (hB : B + 500 < 2000000000) (R : relN f N B H c m) :
    ∃ c' m', F11_checkTimes c = some c' ∧ F12_timesOfAll m = some m' ∧ relN f N (B + 432) H c' m' ∧ so w_C c c' ∧ so w_M m m' := by
  obtain ⟨h, L⟩ := H
  have hA := R.2.2.2.2.2.2.1
  have h72 : 0 ≤ c.1 11 0 11 ∧ c.1 11 0 11 ≤ 72 := by have := hA.1; omega
  obtain ⟨c', m', e1, e2, e3, e4, e5⟩ := tm_loop hf (c.1 11 0 11).toNat j_fu j_fu 0 (-1) B c m (by omega) R (by omega) (by omega) (by unfold j_fu; omega) (by unfold j_fu; omega) (fun a j j0 j1 j2 la => ⟨fun _ => by have := hA.2.2.2.2.2.2.1 a la; omega, fun q => by omega⟩)
  exact ⟨c', m', e1, e2, rel_mono (by omega) e3, e4, e5⟩
end RY
