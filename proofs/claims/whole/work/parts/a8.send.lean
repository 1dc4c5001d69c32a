/-! ===== a unit is sent ===== -/
def kp (c m : JM) (q : Int) : Prop := ∃ (a b d g : Nat) (L : List Nat), c.1 9 q 0 = (a : Int) ∧ c.1 9 q 1 = (b : Int) ∧ c.1 9 q 2 = (d : Int) ∧ c.1 9 q 3 = (g : Int) ∧ mo L (c.2.1 9 q 4) ∧ (a < 128 ∧ b < 2 ∧ d < 128 ∧ g < 2) ∧ m.1 172 0 q = ((enc (ful a b d g L)).length : Int) ∧ ∀ j : Nat, j < (enc (ful a b d g L)).length → m.1 171 0 (320 * q + j) = ((enc (ful a b d g L)).getD j 0 : Int)
def fc (cur : Int) (R : List (Int × Int)) : List (Int × Int) := R.filter (fun p => decide (cur ≤ p.1))
def r_t (cur : Int) (c m : JM) : Prop := (∃ R, ts m R ∧ tc c 0 (fc cur R) ∧ rng R) ∧ (∃ R, tl m R ∧ tc c 1 (fc cur R) ∧ rng R)
theorem fc_s (cur : Int) (R : List (Int × Int)) : (fc cur R).filter (fun p => decide (p.1 ≠ cur)) = fc (cur + 1) R := by
  unfold fc
  rw [List.filter_filter]
  refine List.filter_congr (fun p _ => ?_)
  rw [← Bool.decide_and, decide_eq_decide]
  omega
theorem fc_n {cur : Int} {R : List (Int × Int)} (h : ∀ p ∈ fc cur R, p.1 ≠ cur) : fc cur R = fc (cur + 1) R := by
  rw [← fc_s]
  exact (List.filter_eq_self.2 (fun p hp => by simpa using h p hp)).symm
theorem fc_m {cur : Int} {R : List (Int × Int)} {p : Int × Int} (hp : p ∈ R) (h : p.1 = cur) : p ∈ fc cur R := List.mem_filter.2 ⟨hp, by simp; omega⟩
theorem fc_r {cur : Int} {R : List (Int × Int)} (h : rng R) : rng (fc cur R) := fun p hp => h p (List.mem_filter.1 hp).1
theorem fc_ge {cur : Int} {R : List (Int × Int)} : ∀ p ∈ fc cur R, cur ≤ p.1 := fun p hp => by simpa using (List.mem_filter.1 hp).2
theorem tc_cg {c c' : JM} {t : Int} {C : List (Int × Int)} (h : ∀ k j, k = 7 ∨ k = 34 ∨ k = 35 → c'.1 k t j = c.1 k t j) (T : tc c t C) : tc c' t C := by
  unfold tc
  rw [h 7 2 (by omega), h 7 3 (by omega)]
  exact ⟨T.1, T.2.1, fun j hj => by rw [h 34 j (by omega), h 35 j (by omega)]; exact T.2.2.1 j hj, T.2.2.2⟩
theorem f_copy (c : JM) (v u : Int) (hvu : v ≠ u) : ∃ c', F9_copyOf v (some u) c = some c' ∧ (∀ j, j = 0 ∨ j = 1 ∨ j = 2 ∨ j = 3 ∨ j = 5 → c'.1 9 v j = c.1 9 u j) ∧ c'.2.1 9 v 4 = c.2.1 9 u 4 ∧ (∀ k n j, k ≠ 9 ∨ n ≠ v → c'.1 k n j = c.1 k n j ∧ c'.2.1 k n j = c.2.1 k n j) ∧ c'.2.2 = c.2.2 ∧ so w_o c c' := by
  unfold F9_copyOf
  rw [Option.bind_some]
  simp only [lt_d]
  refine ⟨_, rfl, fun j hj => ?_, ?_, fun k n j q => ⟨?_, ?_⟩, rfl, so_I (so_L (so_I (so_I (so_I (so_I (so_rfl c) rfl _ _) rfl _ _) rfl _ _) rfl _ _) rfl _ _) rfl _ _⟩
  · have hu : u ≠ v := Ne.symm hvu
    rcases hj with rfl | rfl | rfl | rfl | rfl <;> simp [rI_I, rL_I, hu]
  · have hu : u ≠ v := Ne.symm hvu
    simp [rI_L, rL_L, hu]
  · rw [rI_o (by omega), rL_I, rI_o (by omega), rI_o (by omega), rI_o (by omega), rI_o (by omega)]
  · rw [rI_L, rL_L, if_neg (by omega), rI_L, rI_L, rI_L, rI_L]
section SQ
variable {f : Int → Int} {N z1 z2 X : Int} {sec : Option Int} {Y zd : Int} {c m c' m' : JM} {B B' : Int} {H : HT}
/-- spoiled or not: the class's unit v against the bits on the way -/
theorem p_spoil {e n u v : Int} (he : e = 0 ∨ e = 1) (hn : 0 ≤ n ∧ n ≤ 20000000) (hN : 1 ≤ N ∧ N ≤ 16) (hvu : v ≠ u) {a b d g : Nat} {L : List Nat} {R0 : List (Int × Int)} (h9 : ∀ x, x = u ∨ x = v → c.1 9 x 0 = (a : Int) ∧ c.1 9 x 1 = (b : Int) ∧ c.1 9 x 2 = (d : Int) ∧ c.1 9 x 3 = (g : Int) ∧ c.1 9 x 5 = 0 ∧ mo L (c.2.1 9 x 4)) (hr : a < 128 ∧ b < 2 ∧ d < 128 ∧ g < 2) (T0 : tc c 0 (fc (2 * n + e) R0)) (G0 : rng R0) (hnw : c.1 11 0 10 = n) (hNc : c.1 11 0 0 = N) :
    ∃ c', (∀ k : JM → Option JM, (F7_concern 0 e (c.1 11 0 10) c).bind (fun q9 => if q9.1 = 0 then k q9.2 else (F10_write (some u) q9.2).bind (fun h10 => (F7_turn 0 e (h10.1 11 0 10) (some 0) h10).bind (fun h11 => (F7_forget 0 e (h11.1 11 0 10) h11).bind (fun h12 => (F10_read (some v) (h12.1 11 0 0) h12).bind (fun q13 => if q13.1 = 0 then lt_ (sI q13.2 9 v 5 1) k else lt_ (sI q13.2 9 v 5 0) k))))) = k c') ∧
      tc c' 0 (fc (2 * n + e + 1) R0) ∧ (∀ k n' j, (k ≠ 7 ∧ k ≠ 34 ∧ k ≠ 35 ∧ k ≠ 36 ∧ k ≠ 37 ∧ k ≠ 10 ∧ k ≠ 9) ∨ (k = 9 ∧ n' ≠ v) ∨ ((k = 7 ∨ k = 34 ∨ k = 35) ∧ n' ≠ 0) → c'.1 k n' j = c.1 k n' j ∧ c'.2.1 k n' j = c.2.1 k n' j) ∧ so w_o c c' ∧
      ((c'.1 9 v 5 = 1 ∧ rd (fls (2 * n + e) (enc (ful a b d g L)) R0) = none) ∨ (c'.1 9 v 5 = 0 ∧ ∃ l, rd (fls (2 * n + e) (enc (ful a b d g L)) R0) = some l ∧ bl l ∧ c'.1 9 v 0 = (vr l 0 7 : Int) ∧ c'.1 9 v 1 = (vr l 7 1 : Int) ∧ c'.1 9 v 2 = (vr l 8 7 : Int) ∧ c'.1 9 v 3 = (vr l 15 1 : Int) ∧ dm N (vr l 16 6) (fun j => vr l (24 + 8 * j) 8) (c'.2.1 9 v 4))) := by
  obtain ⟨u0, u1, u2, u3, u5, u4⟩ := h9 u (Or.inl rfl)
  obtain ⟨v0, v1, v2, v3, v5, v4⟩ := h9 v (Or.inr rfl)
  have hL := mo_len u4
  obtain ⟨el1, el2⟩ := enc_len a b d g L hL
  rcases f_concern T0 he hn fc_ge with ⟨hc, _⟩ | ⟨hc, hno⟩
  · obtain ⟨c1, w1, w2, w3, w4⟩ := f_wunit hr.1 hr.2.1 hr.2.2.1 hr.2.2.2 u0 u1 u2 u3 u4
    have T1 : tc c1 0 (fc (2 * n + e) R0) := tc_cg (fun k j q => (w4 k 0 j (by rcases q with rfl | rfl | rfl <;> rfl)).1) T0
    have U1 : wu c1 (enc (ful a b d g L)) := ⟨w2, w3, by omega, enc_bl (ful_bl a b d g L)⟩
    obtain ⟨c2, x1, x2, x3, x4⟩ := f_turn3 (t := 0) he hn (fc_r G0) (fc (2 * n + e) R0).length j_fu 0 c1 _ (by omega) (by have := T1.2.1; unfold j_fu; omega) T1 U1
    rw [List.drop_zero] at x2
    have x1' : F7_turn 0 e n (some 0) c1 = some c2 := x1
    have T2 : tc c2 0 (fc (2 * n + e) R0) := tc_cg (fun k j q => x3 k 0 j (by omega)) T1
    obtain ⟨c3, y1, y2, y3, y4⟩ := f_forget he hn T2
    rw [fc_s] at y2
    have U3 : wu c3 (fls (2 * n + e) (enc (ful a b d g L)) R0) := by
      have : fls (2 * n + e) (enc (ful a b d g L)) (fc (2 * n + e) R0) = fls (2 * n + e) (enc (ful a b d g L)) R0 := fls_f _ _ _
      rw [this] at x2
      exact ⟨ar_cg x2.1 (fun j _ => y3 36 0 j (by omega)), by rw [y3 10 0 1 (by omega)]; exact x2.2.1, x2.2.2.1, x2.2.2.2⟩
    have so3 : so w_o c c3 := fun k n' j q => by
      simp [w_o] at q
      refine ⟨?_, ?_, ?_⟩
      · rw [y3 k n' j (by omega), x3 k n' j (by omega)]; exact (w4 k n' j (by simp [w_wr]; omega)).1
      · rw [y4, x4]; exact (w4 k n' j (by simp [w_wr]; omega)).2.1
      · rw [y4, x4]; exact (w4 k n' j (by simp [w_wr]; omega)).2.2
    have fr3 : ∀ k n' j, (k ≠ 7 ∧ k ≠ 34 ∧ k ≠ 35 ∧ k ≠ 36 ∧ k ≠ 37 ∧ k ≠ 10 ∧ k ≠ 9) ∨ (k = 9 ∧ n' ≠ v) ∨ ((k = 7 ∨ k = 34 ∨ k = 35) ∧ n' ≠ 0) → c3.1 k n' j = c.1 k n' j ∧ c3.2.1 k n' j = c.2.1 k n' j := fun k n' j q => by
      refine ⟨?_, ?_⟩
      · rw [y3 k n' j (by omega), x3 k n' j (by omega)]; exact (w4 k n' j (by simp [w_wr]; omega)).1
      · rw [y4, x4]; exact (w4 k n' j (by simp [w_wr]; omega)).2.1
    have st : ∀ k : JM → Option JM, (F7_concern 0 e (c.1 11 0 10) c).bind (fun q9 => if q9.1 = 0 then k q9.2 else (F10_write (some u) q9.2).bind (fun h10 => (F7_turn 0 e (h10.1 11 0 10) (some 0) h10).bind (fun h11 => (F7_forget 0 e (h11.1 11 0 10) h11).bind (fun h12 => (F10_read (some v) (h12.1 11 0 0) h12).bind (fun q13 => if q13.1 = 0 then lt_ (sI q13.2 9 v 5 1) k else lt_ (sI q13.2 9 v 5 0) k))))) = (F10_read (some v) N c3).bind (fun q13 => if q13.1 = 0 then lt_ (sI q13.2 9 v 5 1) k else lt_ (sI q13.2 9 v 5 0) k) := fun k => by
      rw [hnw, hc, Option.bind_some]
      dsimp only
      rw [if_neg (by decide), w1, Option.bind_some, (w4 11 0 10 rfl).1, hnw, x1', Option.bind_some, x3 11 0 10 (by decide), (w4 11 0 10 rfl).1, hnw, y1, Option.bind_some, y3 11 0 0 (by omega), x3 11 0 0 (by decide), (w4 11 0 0 rfl).1, hNc]
    have rbo : ∀ {c4 : JM}, so w_rb c3 c4 → so w_o c c4 ∧ tc c4 0 (fc (2 * n + e + 1) R0) ∧ (∀ k n' j, (k ≠ 7 ∧ k ≠ 34 ∧ k ≠ 35 ∧ k ≠ 36 ∧ k ≠ 37 ∧ k ≠ 10 ∧ k ≠ 9) ∨ (k = 9 ∧ n' ≠ v) ∨ ((k = 7 ∨ k = 34 ∨ k = 35) ∧ n' ≠ 0) → c4.1 k n' j = c.1 k n' j ∧ c4.2.1 k n' j = c.2.1 k n' j) := fun {c4} q => by
      refine ⟨so_tr so3 (so_mono (fun k j w => by simp [w_o] at w; simp [w_rb]; omega) q), tc_cg (fun k j w => (q k 0 j (by rcases w with rfl | rfl | rfl <;> rfl)).1) y2, fun k n' j w => ?_⟩
      have := q k n' j (by simp [w_rb]; omega)
      rw [this.1, this.2.1]
      exact fr3 k n' j w
    rcases f_read U3 v hN with ⟨q1, c4, q2, q3⟩ | ⟨l, c4, x, q1, q2, q3, q4, q5⟩
    · obtain ⟨o1, o2, o3⟩ := rbo q3
      refine ⟨sI c4 9 v 5 1, fun k => ?_, tc_cg (fun k j w => rI_o (by omega)) o2, fun k n' j w => ?_, so_I o1 rfl _ _, Or.inl ⟨rI_s _ _ _ _ _, q1⟩⟩
      · rw [st, q2, Option.bind_some, if_pos rfl, lt_d]
      · rw [rI_o (by omega)]; exact o3 k n' j w
    · obtain ⟨o1, o2, o3⟩ := rbo q2
      refine ⟨sI (sL (sI (sI (sI (sI c4 9 v 0 (vr l 0 7 : Int)) 9 v 1 (vr l 7 1 : Int)) 9 v 2 (vr l 8 7 : Int)) 9 v 3 (vr l 15 1 : Int)) 9 v 4 x) 9 v 5 0, fun k => ?_, tc_cg (fun k j w => ?_) o2, fun k n' j w => ⟨?_, ?_⟩, so_I (so_L (so_I (so_I (so_I (so_I o1 rfl _ _) rfl _ _) rfl _ _) rfl _ _) rfl _ _) rfl _ _, Or.inr ⟨rI_s _ _ _ _ _, l, q1, q4, ?_, ?_, ?_, ?_, ?_⟩⟩
      · rw [st, q5, Option.bind_some]
        dsimp only
        rw [if_neg (by decide), lt_d]
      · rw [rI_o (by omega), rL_I, rI_o (by omega), rI_o (by omega), rI_o (by omega), rI_o (by omega)]
      · rw [rI_o (by omega), rL_I, rI_o (by omega), rI_o (by omega), rI_o (by omega), rI_o (by omega)]; exact (o3 k n' j w).1
      · rw [rI_L, rL_L, if_neg (by omega), rI_L, rI_L, rI_L, rI_L]; exact (o3 k n' j w).2
      · simp [rI_I, rL_I]
      · simp [rI_I, rL_I]
      · simp [rI_I, rL_I]
      · simp [rI_I, rL_I]
      · rw [show (sI (sL (sI (sI (sI (sI c4 9 v 0 (vr l 0 7 : Int)) 9 v 1 (vr l 7 1 : Int)) 9 v 2 (vr l 8 7 : Int)) 9 v 3 (vr l 15 1 : Int)) 9 v 4 x) 9 v 5 0).2.1 9 v 4 = x by simp [rI_L, rL_L]]
        exact q3
  · refine ⟨c, fun k => ?_, by rw [← fc_n hno]; exact T0, fun _ _ _ _ => ⟨rfl, rfl⟩, so_rfl c, Or.inr ⟨v5, ful a b d g L, ?_, ful_bl a b d g L, ?_, ?_, ?_, ?_, ?_⟩⟩
    · rw [hnw, hc, Option.bind_some, if_pos rfl]
    · rw [← fls_f, show R0.filter (fun p => decide (2 * n + e ≤ p.1)) = fc (2 * n + e) R0 from rfl, fls_no _ _ _ hno]
      exact rd_enc a b d g L hL
    · rw [v0, vr_f0, Nat.mod_eq_of_lt hr.1]
    · rw [v1, vr_f7, Nat.mod_eq_of_lt hr.2.1]
    · rw [v2, vr_f8, Nat.mod_eq_of_lt hr.2.2.1]
    · rw [v3, vr_f15, Nat.mod_eq_of_lt hr.2.2.2]
    · rw [vr_f16 a b d g L (by omega)]
      rcases v4 with ⟨rfl, q⟩ | q
      · exact Or.inl ⟨rfl, q⟩
      · refine Or.inr (Or.inr ⟨L, q, rfl, fun j hj => ?_⟩)
        show vr (ful a b d g L) (24 + 8 * j) 8 = _
        rw [vr_fb a b d g L hj, Nat.mod_eq_of_lt (mg_b q j)]
end SQ
