/-! ===== speech is carried ===== -/
section SV
variable {f : Int → Int} {N : Int} {c m c0 c1 m0 : JM} {B : Int} {H : HT}
theorem oL_eq (hf : f_ok f) (R : relN f N B H c m) (Q : r_s N c m) (P0 : ps N c c0) (P : ps N c c1) (M : sma m m0) (hs : ∀ e r, e = 0 ∨ e = 1 → r = 0 ∨ r = 1 → c1.1 24 e r = sm (tC c0 e r) (c0.1 11 0 11).toNat) {i l : Int} (i0 : 0 ≤ i ∧ i < 72) (h3 : c.1 0 i 9 = 3) (hl : c.2.2 4 l 11 = some i) : oL c1 i l = oLm m0 (f i) l := by
  have wa : d_wa c := R.2.2.1.2.2.2.2.2.2.2.2.2.2.2.2.2.2.2.2.2.1
  obtain ⟨e, he, h5, h0, hA, hB⟩ := tlk R i0 h3
  obtain ⟨l0, l1, _, hw⟩ := wa l i hl
  have c40 : c1.1 4 l 0 = l := by rw [P.2.1 4 l 0 rfl]; exact R.1.2.2.2.2.2.2.2.2.2.2.2.1 l l0 l1
  have hd : 8 * e ≤ l ∧ l < 8 * e + 8 := by
    rcases hw with w | ⟨w, _⟩
    · rcases hA with q | q
      · rw [q.1] at w; have := Option.some.inj w; omega
      · rw [q.1] at w; cases w
    · rcases hB with ⟨q | q, _⟩ | q
      · rw [q.1] at w; have := Option.some.inj w; omega
      · rw [q.1] at w; cases w
      · rw [q.2.2.1] at w; cases w
  have a : c.2.2 0 i 1 = some l ↔ l = m.1 136 0 (f i) := by
    rcases hA with q | q
    · rw [q.1]; exact ⟨fun z => (Option.some.inj z).symm, fun z => by rw [z]⟩
    · rw [q.1]; exact ⟨fun z => (by cases z), fun z => by omega⟩
  unfold oL oLm
  rw [c40, n_div8 he hd.1 hd.2, P.1, M.2 135 0 (f i) (by decide) (by decide), h5, vA_eq hf R Q P0 P M hs i0 h3, gA_eq hf R Q P M i0 h3, M.2 136 0 (f i) (by decide) (by decide)]
  by_cases z : c.2.2 0 i 1 = some l
  · rw [if_pos z, if_pos (a.mp z)]
  · rw [if_neg z, if_neg (fun y => z (a.mpr y))]
theorem oT_eq (hf : f_ok f) (R : relN f N B H c m) (Q : r_s N c m) (P0 : ps N c c0) (P : ps N c c1) (M : sma m m0) (hs : ∀ e r, e = 0 ∨ e = 1 → r = 0 ∨ r = 1 → c1.1 24 e r = sm (tC c0 e r) (c0.1 11 0 11).toNat) {i : Int} (i0 : 0 ≤ i ∧ i < 72) (h3 : c.1 0 i 9 = 3) (j : Int) : oT c1 i j = oTm m0 (f i) j := by
  obtain ⟨e, he, h5, h0, hA, hB⟩ := tlk R i0 h3
  have a : (100 ≤ m.1 136 0 (f i) ∧ j = 16 * e + m.1 136 0 (f i) - 100) ↔ c.2.2 0 i 2 = some j := by
    rcases hA with q | q
    · rw [q.2.1]
      exact ⟨fun z => by omega, fun z => by cases z⟩
    · rw [q.2.1]
      exact ⟨fun z => by rw [z.2], fun z => ⟨q.2.2.1, (Option.some.inj z).symm⟩⟩
  unfold oT oTm
  rw [P.1, M.2 135 0 (f i) (by decide) (by decide), h5, vA_eq hf R Q P0 P M hs i0 h3, gA_eq hf R Q P M i0 h3, M.2 136 0 (f i) (by decide) (by decide)]
  by_cases z : c.2.2 0 i 2 = some j
  · rw [if_pos z, if_pos (a.mpr z)]
  · rw [if_neg z, if_neg (fun y => z (a.mp y))]
theorem n_72 {n : Int} (h : 0 ≤ n ∧ n ≤ 72) {a : Int} (hb : -8191 * ((n.toNat : Nat) : Int) ≤ a ∧ a ≤ 8191 * ((n.toNat : Nat) : Int)) : -1000000 ≤ a ∧ a ≤ 1000000 := by omega
theorem p_speech (hf : f_ok f) (R : relN f N B H c m) (Q : r_s N c m) : ∃ c' m', F11_carrySpeech c = some c' ∧ F12_speaks m = some m' ∧ relN f N B H c' m' ∧ r_s N c' m' ∧ so w_S c c' ∧ so w_Sm m m' := by
  have h100 := so_fu
  have hN : 1 ≤ N ∧ N ≤ 16 := ⟨R.1.2.2.1, R.1.2.2.2.1⟩
  have R7 : r_a f B H c m := R.2.2.2.2.2.2.1
  have wa : d_wa c := R.2.2.1.2.2.2.2.2.2.2.2.2.2.2.2.2.2.2.2.2.1
  have la : d_la f c m := R.2.2.1.2.2.2.2.2.2.2.2.2.2.2.2.2.2.1
  have st : d_st f c m := R.2.2.1.1
  obtain ⟨c0, a1, a2, a3⟩ := f_silent hN (fun e he => (R.1.2.2.2.2.2.2.2.2.2.2.1 e he).1)
  obtain ⟨m0, b1, b2, b3⟩ := m_silent m
  have P0 : ps N c c0 := hs_ps a2 a3
  have M : sma m m0 := ⟨b2, fun k n j x y => by rw [b3]; unfold hsm; rw [if_neg (fun z => x z.1), if_neg (fun z => y z.1)]⟩
  have S0 : sp c0 := sp_of hf R Q P0
  have n72 := S0.1
  obtain ⟨c1, d1, d2, d3, d4⟩ := f_s48 S0 (c0.1 11 0 11).toNat j_fu 0 c0 rfl (fun _ _ _ _ => rfl) (fun e r he hr => by
    rw [a3]; unfold hs
    rw [if_neg (fun z => absurd z.1 (by decide)), if_neg (fun z => absurd z.1 (by decide)), if_neg (fun z => absurd z.1 (by decide)), if_pos ⟨rfl, he, hr⟩]; rfl) (by omega) (by omega)
  have P1 : ps N c c1 := by
    refine ⟨d2.trans a2, fun k n j z => ?_, fun e k he x y => ?_⟩
    · rw [d3 k n j (fun w => by rw [w] at z; simp [w_S] at z)]; exact P0.2.1 k n j z
    · rw [d3 8 _ 5 (by decide)]; exact P0.2.2 e k he x y
  have S1 : sp c1 := sp_of hf R Q P1
  have W : ∀ i, 0 ≤ i → i < 72 → c1.1 0 i 9 = 3 → tw c1 i := fun i x y z => by
    rw [P1.2.1 0 i 9 rfl] at z
    refine tw_of R P1 ⟨x, y⟩ z (fun w => ?_)
    rw [P1.2.1 0 i 6 rfl] at w
    obtain ⟨e, he, h5, h0, hA, hB⟩ := tlk R ⟨x, y⟩ z
    have hr : c.1 0 i 6 = 0 ∨ c.1 0 i 6 = 1 := by
      rcases hB with ⟨_, _, q⟩ | ⟨q1, q2, _, _, q⟩
      · exact absurd q w
      · omega
    have e1 : rS c1 i = c1.1 24 e (c.1 0 i 6) := by unfold rS; rw [P1.1, h0, P1.2.1 0 i 6 rfl]
    rw [e1, d4 e _ he hr]
    exact n_72 n72 (sm_b (fun k k0 k1 => tC_b S0 e _ k k0 (by omega)))
  have n1 : c1.1 11 0 11 = c.1 11 0 11 := P1.2.1 11 0 11 rfl
  have n0 : c0.1 11 0 11 = c.1 11 0 11 := P0.2.1 11 0 11 rfl
  have no0 : ∀ i, ¬ pd c1 0 i := fun i ⟨k, k0, k1, _⟩ => by omega
  obtain ⟨c', g1, g2, g3, g4, g5, g6⟩ := f_s114 S1 W (u_of R P1) (c1.1 11 0 11).toNat j_fu 0 c1 ⟨rfl, fun _ _ _ _ _ => rfl⟩ ⟨fun n i _ _ z => absurd z (no0 i), fun n _ => rfl, fun n i _ _ z => absurd z (no0 i), fun n _ => rfl⟩ (by omega) (by omega)
  have T : ∀ s, 0 ≤ s → s < 80 → m0.1 133 0 s = 3 → tk m0 s := fun s x y z => by
    rw [M.2 133 0 s (by decide) (by decide)] at z
    obtain ⟨i, i0, ei, i3⟩ := slot hf R ⟨x, y⟩ z
    rw [← ei]; exact tk_of hf R Q M i0 i3
  have U : ∀ s s' j, 0 ≤ s → s < 80 → 0 ≤ s' → s' < 80 → m0.1 133 0 s = 3 → m0.1 133 0 s' = 3 → hTm m0 s j → hTm m0 s' j → s = s' := fun s s' j x y x' y' z z' w w' => by
    rw [M.2 133 0 s (by decide) (by decide)] at z
    rw [M.2 133 0 s' (by decide) (by decide)] at z'
    obtain ⟨i, i0, ei, i3⟩ := slot hf R ⟨x, y⟩ z
    obtain ⟨i', i0', ei', i3'⟩ := slot hf R ⟨x', y'⟩ z'
    rw [← ei] at w
    rw [← ei'] at w'
    have := u_of R P1 i i' j i0 i0' (by rw [P1.2.1 0 i 9 rfl]; exact i3) (by rw [P1.2.1 0 i' 9 rfl]; exact i3') ((hT_iff R P1 M i0 i3 j).mp w) ((hT_iff R P1 M i0' i3' j).mp w')
    rw [← ei, ← ei', this]
  obtain ⟨m1, k1, k2, k3, k4, k5, k6⟩ := m_s48 T U 80 j_fu 0 m0 ⟨rfl, fun _ _ _ _ _ => rfl⟩ ⟨fun j _ _ x y => by omega, fun n j _ => rfl, fun j s x y => by omega, fun n j _ => rfl⟩ (by omega) (by omega) (by omega)
  obtain ⟨m', q1, q2, q3⟩ := m_s153 32 j_fu 0 m1 (by omega) (by omega) (by omega)
  have onl : ∀ i, 0 ≤ i ∧ i < 72 → c.1 0 i 9 = 3 → pd c1 (c1.1 11 0 11).toNat i := fun i i0 i3 => by
    obtain ⟨k, w0, w1, w2⟩ := R7.2.2.2.2.1 i ⟨i0.1, i0.2, by omega⟩
    exact ⟨k, w0, by omega, by rw [P1.1]; exact w2⟩
  have sc : so w_S c c' := fun k n j z => by
    have h2 : c'.2 = c.2 := g2.1.trans P1.1
    refine ⟨?_, by rw [h2], by rw [h2]⟩
    rw [g2.2 k n j (fun x y => by rw [x, y] at z; exact absurd z (by decide)) (fun x y => by rw [x, y] at z; exact absurd z (by decide))]
    exact P1.2.1 k n j z
  have smm : so w_Sm m m' := fun k n j z => by
    have h2 : m'.2 = m.2 := q2.trans (k2.1.trans M.1)
    refine ⟨?_, by rw [h2], by rw [h2]⟩
    have z1 : k ≠ 131 ∧ k ≠ 184 ∧ k ≠ 185 := by simp [w_Sm] at z; omega
    rw [q3, if_neg (fun y => z1.2.1 y.1), k2.2 k n j z1.1 z1.2.2]
    exact M.2 k n j z1.1 z1.2.2
  have lines : ∀ l, m'.1 131 0 l = c'.1 4 l 19 := fun l => by
    rw [q3, if_neg (fun y => absurd y.1 (by decide))]
    by_cases hx : ∃ i, c.2.2 4 l 11 = some i ∧ c.1 0 i 9 = 3
    · obtain ⟨i, x1, x2⟩ := hx
      obtain ⟨l0, l1, v, _⟩ := wa l i x1
      have i0 : 0 ≤ i ∧ i < 72 := ⟨v.1, v.2.1⟩
      have fi := hf.2.2.1 i i0.1 (by omega)
      have e9 : m0.1 119 0 l = f i := by rw [M.2 119 0 l (by decide) (by decide), la l l0 l1, x1]; rfl
      have e3 : m0.1 133 0 (f i) = 3 := by rw [M.2 133 0 (f i) (by decide) (by decide), (st i i0.1 i0.2).1]; exact x2
      rw [k3 l l0 l1 (by rw [e9]; exact fi.1) (by rw [e9]; exact fi.2) (by rw [e9]; exact e3), e9, g3 l i (by rw [P1.1]; exact x1) (by rw [P1.2.1 0 i 9 rfl]; exact x2) (onl i i0 x2)]
      exact (oL_eq hf R Q P0 P1 M d4 i0 x2 x1).symm
    · have no : ∀ i, c1.2.2 4 l 11 = some i → c1.1 0 i 9 = 3 → ¬ pd c1 (c1.1 11 0 11).toNat i := fun i x y _ => hx ⟨i, by rw [P1.1] at x; exact x, by rw [P1.2.1 0 i 9 rfl] at y; exact y⟩
      rw [g4 l no, d3 4 l 19 (by decide), a3]
      have mo : m1.1 131 0 l = m0.1 131 0 l := by
        refine k4 0 l (Or.inr (fun y => ?_))
        obtain ⟨y0, y1, y2, y3, y4⟩ := y
        rw [M.2 119 0 l (by decide) (by decide)] at y2 y3 y4
        rw [M.2 133 0 _ (by decide) (by decide)] at y4
        obtain ⟨i, i0, ei, i3⟩ := slot hf R ⟨y2, y3⟩ y4
        refine hx ⟨i, ?_, i3⟩
        rw [la l y0 y1] at ei
        exact (rf_eq hf _ i).mp ei.symm
      rw [mo, b3]
      unfold hs hsm
      by_cases y : 0 ≤ l ∧ l < 16
      · rw [if_pos ⟨rfl, rfl, y⟩, if_pos ⟨rfl, rfl, y⟩]
      · rw [if_neg (fun z => y z.2.2), if_neg (fun z => absurd z.1 (by decide)), if_neg (fun z => y z.2.2), if_neg (fun z => absurd z.1 (by decide)), if_neg (fun z => absurd z.1 (by decide)), if_neg (fun z => absurd z.1 (by decide))]
        exact (R.2.1 l).2.2.2.2.2.2.2.2.2.2.2.2
  refine ⟨c', m', by rw [a1]; exact d1.trans g1, by rw [b1]; exact k1.trans q1, rel_s hf R sc smm lines, ⟨fun l l0 l1 => by rw [(sc 4 l 18 rfl).1]; exact Q.1 l l0 l1, fun e k he x y => ?_⟩, sc, smm⟩
  have t0 : 0 ≤ 16 * e + k ∧ 16 * e + k < 32 := by omega
  have tN : (0 ≤ 16 * e + k ∧ 16 * e + k < N) ∨ (16 ≤ 16 * e + k ∧ 16 * e + k < 16 + N) := by omega
  generalize 16 * e + k = t at t0 tN ⊢
  rw [q3, if_pos ⟨rfl, rfl, t0.1, t0.2⟩]
  by_cases hx : ∃ i, (0 ≤ i ∧ i < 72) ∧ hT c1 i t ∧ c.1 0 i 9 = 3
  · obtain ⟨i, i0, x1, x2⟩ := hx
    have fi := hf.2.2.1 i i0.1 (by omega)
    have e3 : m0.1 133 0 (f i) = 3 := by rw [M.2 133 0 (f i) (by decide) (by decide), (st i i0.1 i0.2).1]; exact x2
    rw [k5 t (f i) fi.1 fi.2 e3 ((hT_iff R P1 M i0 x2 t).mpr x1), g5 t i x1 (by rw [P1.2.1 0 i 9 rfl]; exact x2) (onl i i0 x2)]
    refine ⟨(oT_eq hf R Q P0 P1 M d4 i0 x2 t).symm, ?_⟩
    unfold oT
    exact s_l0r _
  · have no : ∀ i, hT c1 i t → c1.1 0 i 9 = 3 → ¬ pd c1 (c1.1 11 0 11).toNat i := fun i z1 z2 ⟨k', w0, w1, w2⟩ => by
      obtain ⟨i', u1, u2, u3⟩ := R7.2.1 k' w0 (by have := S1.1; omega)
      rw [P1.1, u1] at w2
      have := Option.some.inj w2
      exact hx ⟨i, by omega, z1, by rw [P1.2.1 0 i 9 rfl] at z2; exact z2⟩
    rw [g6 t no, d3 8 t 4 (by decide), a3]
    have mo : m1.1 185 0 t = m0.1 185 0 t := by
      refine k6 0 t (Or.inr (fun s y0 y1 y2 y3 => ?_))
      rw [M.2 133 0 s (by decide) (by decide)] at y2
      obtain ⟨i, i0, ei, i3⟩ := slot hf R ⟨y0, y1⟩ y2
      rw [← ei] at y3
      exact hx ⟨i, i0, (hT_iff R P1 M i0 i3 t).mp y3, i3⟩
    rw [mo, b3]
    unfold hs hsm
    rw [if_neg (fun z => absurd z.1 (by decide)), if_pos ⟨rfl, rfl, t0.1, t0.2⟩, if_neg (fun z => absurd z.1 (by decide)), if_neg (fun z => absurd z.2.1 (by decide)), if_pos ⟨rfl, rfl, tN⟩]
    exact ⟨rfl, 213, by decide, rfl⟩
end SV
