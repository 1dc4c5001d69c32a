/-! ===== units are taken ===== -/
theorem rd_some {U l : List Nat} (h : rd U = some l) : l.length = 40 + 8 * vr l 16 6 := by
  unfold rd at h
  split at h
  · obtain ⟨y, _, h2⟩ := bd_e h
    split at h2
    · next q => cases h2; exact q.2.1
    · cases h2
  · cases h
theorem fl_cg {N : Int} {c m c' m' : JM} {u : Int} {on : Nat} (hc : ∀ j, c'.1 9 u j = c.1 9 u j ∧ c'.2.1 9 u j = c.2.1 9 u j) (hm : ∀ j, m'.1 173 0 j = m.1 173 0 j ∧ m'.1 174 0 j = m.1 174 0 j) (h : fl N c m u on) : fl N c' m' u on := by
  unfold fl mw at h ⊢
  simp only [(hc _).1, (hc _).2, (hm _).1, (hm _).2]
  exact h
/-- units on their ways -/
def r_w (N : Int) (c m : JM) : Prop := ∀ e s, e = 0 ∨ e = 1 → c.1 11 0 10 - 2 ≤ s → s < c.1 11 0 10 → (s < 0 ∧ c.1 9 (128 + 2 * e + s % 2) 5 = 2) ∨ (0 ≤ s ∧ fl N c m (128 + 2 * e + s % 2) (4 * e + s % 4).toNat)
section SO
variable {f : Int → Int} {N z1 z2 X : Int} {sec : Option Int} {Y zd : Int} {c m c' m' : JM} {B B' : Int} {H : HT}
theorem p_unit (hf : f_ok f) (hB : B + 450 < 2000000000) {h : Int} (hh : h + 1 ≤ 72) {e : Int} (he : e = 0 ∨ e = 1) (W : r_w N c m) (R : relN f N B (h, aL) c m) :
    ∃ f' c' m', f_ok f' ∧ (∀ k2, F11_takeUnits_2b k2 e c = k2 (e + 1) c') ∧ F12_unitComes e m = some m' ∧ relN f' N (B + 31) (h + 1, aL) c' m' ∧ so w_D c c' ∧ so w_T m m' := by
  have hnow : m.1 12 0 2 = c.1 11 0 10 := R.1.2.2.2.2.2.2.2.1
  have n0 : 0 ≤ c.1 11 0 10 := R.1.2.2.2.2.2.2.2.2.1
  have n1 : c.1 11 0 10 ≤ 10000000 := R.1.2.2.2.2.2.2.2.2.2.1
  have r4 := R.2.2.2.1 e he
  obtain ⟨⟨m0, m1, m2, m3, m4, m5, m6, m7⟩, ⟨i1, i2, i3, i4, i5, i6, i7, i8, i9, i10, i11, i12⟩, _⟩ := r4
  have he2 : (0 : Int) ≤ e ∧ e < 2 := by omega
  have we : w32 (e + 1) = e + 1 := w32_of (by omega) (by omega)
  have w1e : w32 (1 - e) = 1 - e := w32_of (by omega) (by omega)
  have ja : j_and (c.1 11 0 10) 1 = c.1 11 0 10 % 2 := by
    rw [show (1 : Int) = ((2 ^ 1 - 1 : Nat) : Int) from rfl, i_and n0 (by omega) 1 rfl]
    rfl
  have sm2 : (c.1 11 0 10 - 2) % 2 = c.1 11 0 10 % 2 := by omega
  have w0 := W (1 - e) (c.1 11 0 10 - 2) (by omega) (by omega) (by omega)
  rw [sm2] at w0
  obtain ⟨u, hu⟩ : ∃ u, u = 128 + 2 * (1 - e) + c.1 11 0 10 % 2 := ⟨_, rfl⟩
  rw [← hu] at w0
  have EC : ∀ k2, F11_takeUnits_2b k2 e c = (F5_take e (some u) c).bind (fun q1 => ud k2 e q1.1 q1.2) := fun k2 => by
    unfold F11_takeUnits_2b
    rw [if_neg (by omega), w1e, g_t (by omega), ja, g_t (by omega), g_t he2, ← hu]
    rfl
  have nomsg : ∀ k2 (c' : JM), ud k2 e (-1) c' = k2 (e + 1) c' := fun k2 c' => by
    unfold ud F11_takeUnits_129
    rw [if_pos (by decide), we]
  have lost : c.1 9 u 5 = 2 → ∀ k2, F11_takeUnits_2b k2 e c = k2 (e + 1) c := fun h5 k2 => by
    rw [EC]
    unfold F5_take F5_take_18
    rw [Option.bind_some, if_neg (by omega), Option.bind_some, if_neg (by omega), Option.bind_some]
    exact nomsg k2 c
  have wx : w32 (w32 (4 * w32 (1 - e)) + j_rem (w32 (m.1 12 0 2 + 2)) 4) = 4 * (1 - e) + (c.1 11 0 10 - 2) % 4 := by
    rw [hnow, w1e, w32_of (x := 4 * (1 - e)) (by omega) (by omega), w32_of (x := c.1 11 0 10 + 2) (by omega) (by omega), i_rem (by omega) (by omega) (by decide) (by decide), w32_of (by omega) (by omega)]
    omega
  have upd : relN f N (B + 31) (h + 1, aL) c m := rel_mono (by omega) (rel_up R (by omega) hh)
  rcases w0 with ⟨s0, h5⟩ | ⟨s0, hfl⟩
  · refine ⟨f, c, m, hf, lost h5, ?_, upd, so_rfl c, so_rfl m⟩
    unfold F12_unitComes
    rw [wx, lt_d, if_pos (by omega)]
  · obtain ⟨on, hon⟩ : ∃ on : Nat, on = (4 * (1 - e) + (c.1 11 0 10 - 2) % 4).toNat := ⟨_, rfl⟩
    have hon2 : 4 * (1 - e) + (c.1 11 0 10 - 2) % 4 = (on : Int) := by omega
    rw [← hon] at hfl
    have EM : F12_unitComes e m = if m.1 174 0 (on : Int) = 0 then some m else (F12_isRight (on : Int) m).bind (fun q17 => if q17.1 = 0 then lt_ (sI q17.2 167 0 e (w32 ((q17.2.1 167 0 e) + 1))) (fun h21 => some h21) else ((F12_read 0 7 q17.2).bind (fun q18 =>
 g_ ((0 : Int) ≤ e ∧ e < (2 : Int)) (
 (F12_modulo (w32 (q18.1 - (q18.2.1 161 0 e))) q18.2).bind (fun q19 =>
 g_ ((0 : Int) ≤ e ∧ e < (2 : Int)) (
 g_ ((0 : Int) ≤ e ∧ e < (2 : Int)) (
 if q19.1 ≤ w32 ((q19.2.1 163 0 e) - (q19.2.1 161 0 e)) then (
 g_ ((0 : Int) ≤ e ∧ e < (2 : Int)) (
 g_ ((0 : Int) ≤ e ∧ e < (2 : Int)) (
 lt_ (sI q19.2 161 0 e (w32 ((q19.2.1 161 0 e) + q19.1))) (fun h20 =>
 g_ ((0 : Int) ≤ e ∧ e < (2 : Int)) (
 g_ ((0 : Int) ≤ e ∧ e < (2 : Int)) (
 if h20.1 161 0 e ≤ h20.1 162 0 e then (
 g_ ((0 : Int) ≤ e ∧ e < (2 : Int)) (
 F12_unitComes_133 e (some 0) e (h20.1 162 0 e) h20)) else (
 g_ ((0 : Int) ≤ e ∧ e < (2 : Int)) (
 F12_unitComes_133 e (some 0) e (h20.1 161 0 e) h20)))))))) else (
 some q19.2)))))))) := by
      unfold F12_unitComes
      rw [wx, lt_d, if_neg (by omega), hon2, g_t (by omega)]
      by_cases z : m.1 174 0 (on : Int) = 0
      · rw [if_pos z, if_pos z]
      · rw [if_neg z, if_neg z]
        congr 1
        funext q17
        rw [g_t he2, g_t he2]
    rcases hfl with ⟨h5, h174⟩ | ⟨U, hU, hU8, h174, hh5⟩
    · exact ⟨f, c, m, hf, lost h5, by rw [EM, if_pos h174], upd, so_rfl c, so_rfl m⟩
    · obtain ⟨mr, sr, hr⟩ := m_right hU h174 hU8
      have nz : ¬ m.1 174 0 (on : Int) = 0 := by omega
      have skm : so w_lkm m mr := so_mono (fun k j q => by simp [w_lkm] at q; simp [w_by]; omega) sr
      have mrk : ∀ k j, 160 ≤ k → k ≤ 167 → mr.1 k 0 j = m.1 k 0 j := fun k j a b => (sr k 0 j (by simp [w_by]; omega)).1
      rcases hh5 with ⟨h5, hrd⟩ | ⟨h5, l, hrd, hbl, e0, e1, e2, e3, hdm⟩
      · rcases hr with ⟨_, hr⟩ | ⟨l, q, _⟩
        · have wS : w32 (c.1 5 e 7 + 1) = c.1 5 e 7 + 1 := w32_of (by omega) (by omega)
          refine ⟨f, sI c 5 e 7 (c.1 5 e 7 + 1), sI mr 167 0 e (c.1 5 e 7 + 1), hf, fun k2 => ?_, ?_, ?_, so_I (so_rfl c) rfl _ _, so_I (so_mono w_k4 sr) rfl _ _⟩
          · rw [EC]
            unfold F5_take F5_take_18
            rw [Option.bind_some, if_pos h5, wS, lt_d, Option.bind_some, rI_o (by omega), if_neg (by omega), Option.bind_some]
            exact nomsg k2 _
          · rw [EM, if_neg nz, hr, Option.bind_some, if_pos rfl, lt_d]
            dsimp only
            rw [mrk 167 e (by decide) (by decide), m7, wS]
          · refine rel_mono (B := B + 1) (by omega) (rel_up (rel_lk hf R he (so_I (so_rfl c) rfl _ _) (so_I skm rfl _ _) (fun n j q => by rw [rI_o (by omega)]) (fun k j a b q => by rw [rI_o (by omega)]; exact mrk k j a b) ⟨?_, ?_, ?_, ?_, ?_, ?_⟩ ?_) (by omega) hh)
            · rw [rI_o (by omega), rI_o (by omega), mrk 161 e (by decide) (by decide)]; exact m1
            · rw [rI_o (by omega), rI_o (by omega), mrk 162 e (by decide) (by decide)]; exact m2
            · rw [rI_o (by omega), rI_o (by omega), mrk 164 e (by decide) (by decide)]; exact m4
            · rw [rI_o (by omega), rI_o (by omega), mrk 165 e (by decide) (by decide)]; exact m5
            · rw [rI_o (by omega), rI_o (by omega), mrk 166 e (by decide) (by decide)]; exact m6
            · rw [rI_s, rI_s]
            · rw [rI_s, rI_o (by omega), rI_o (by omega), rI_o (by omega), rI_o (by omega), rI_o (by omega)]
              omega
        · rw [hrd] at q; cases q
      · rcases hr with ⟨q, _⟩ | ⟨l', q, bs, hr⟩
        · rw [hrd] at q; cases q
        · rw [hrd] at q
          cases q
          have R1 : relN f N (B + 1) (h, aL) c mr := rel_lk hf R he (so_rfl c) skm (fun _ _ _ => rfl) (fun k j a b _ => mrk k j a b) ⟨by rw [mrk 161 e (by decide) (by decide)]; exact m1, by rw [mrk 162 e (by decide) (by decide)]; exact m2, by rw [mrk 164 e (by decide) (by decide)]; exact m4, by rw [mrk 165 e (by decide) (by decide)]; exact m5, by rw [mrk 166 e (by decide) (by decide)]; exact m6, by rw [mrk 167 e (by decide) (by decide)]; exact m7⟩ (by omega)
          obtain ⟨f', c', m', p0, p1, p2, p3, p4, p5⟩ := p_unit0 (u := u) hf (by omega) hh he hbl (rd_some hrd) bs e0 e1 e2 e3 hdm h5 R1
          refine ⟨f', c', m', p0, fun k2 => by rw [EC]; exact p1 k2, ?_, rel_mono (by omega) p3, p4, so_tr (so_mono w_k4 sr) p5⟩
          rw [EM, if_neg nz, hr, Option.bind_some]
          dsimp only
          rw [if_neg (by decide)]
          exact p2
theorem r_w_cg (hn : c'.1 11 0 10 = c.1 11 0 10) (hc : ∀ u j, c'.1 9 u j = c.1 9 u j ∧ c'.2.1 9 u j = c.2.1 9 u j) (hm : ∀ j, m'.1 173 0 j = m.1 173 0 j ∧ m'.1 174 0 j = m.1 174 0 j) (W : r_w N c m) : r_w N c' m' := fun e s he a b => by
  rw [hn] at a b
  rcases W e s he a b with ⟨q1, q2⟩ | ⟨q1, q2⟩
  · exact Or.inl ⟨q1, by rw [(hc _ _).1]; exact q2⟩
  · exact Or.inr ⟨q1, fl_cg (fun j => hc _ j) hm q2⟩
theorem p_takes (hf : f_ok f) (hB : B + 500 < 2000000000) {h : Int} (hh : h + 2 ≤ 72) (W : r_w N c m) (R : relN f N B (h, aL) c m) :
    ∃ f' c' m1 m', f_ok f' ∧ F11_takeUnits c = some c' ∧ F12_unitComes 0 m = some m1 ∧ F12_unitComes 1 m1 = some m' ∧ relN f' N (B + 62) (h + 2, aL) c' m' ∧ so w_D c c' ∧ so w_T m m' := by
  obtain ⟨f1, c1, m1, a0, a1, a2, a3, a4, a5⟩ := p_unit hf (by omega) (by omega) (Or.inl rfl) W R
  have W1 : r_w N c1 m1 := r_w_cg (a4 11 0 10 rfl).1 (fun u j => ⟨(a4 9 u j rfl).1, (a4 9 u j rfl).2.1⟩) (fun j => ⟨(a5 173 0 j rfl).1, (a5 174 0 j rfl).1⟩) W
  obtain ⟨f2, c2, m2, b0, b1, b2, b3, b4, b5⟩ := p_unit a0 (by omega) (by omega) (Or.inr rfl) W1 a3
  refine ⟨f2, c2, m1, m2, b0, ?_, a2, b2, rel_mono (by omega) (rel_up b3 (by omega) hh), so_tr a4 b4, so_tr a5 b5⟩
  show F11_takeUnits_2b (F11_takeUnits_2 99999) 0 c = _
  rw [a1]
  show F11_takeUnits_2b (F11_takeUnits_2 99998) 1 c1 = _
  rw [b1]
  show F11_takeUnits_2b (F11_takeUnits_2 99997) 2 c2 = _
  unfold F11_takeUnits_2b
  rw [if_pos (by decide)]
end SO
