/-! ===== speech: a state of silence ===== -/
def hsS (N : Int) (c : JM) : JM := (fun k n j => hs N c k n j, c.2)
theorem hs_ps {N : Int} {c c1 : JM} (h2 : c1.2 = c.2) (h1 : ∀ k n j, c1.1 k n j = hs N c k n j) : ps N c c1 := by
  refine ⟨h2, fun k n j z => ?_, fun e k he a b => ?_⟩
  · rw [h1]
    unfold hs
    simp [w_S] at z
    rw [if_neg (by omega), if_neg (by omega), if_neg (by omega), if_neg (by omega)]
  · rw [h1]
    unfold hs
    rw [if_neg (fun z => absurd z.1 (by decide)), if_pos ⟨rfl, rfl, by omega⟩]
theorem hsS_ps (N : Int) (c : JM) : ps N c (hsS N c) := hs_ps rfl (fun _ _ _ => rfl)
/-! ===== speech: who talks ===== -/
section ST
variable {f : Int → Int} {N : Int} {c m c1 m1 : JM} {B : Int} {H : HT}
def sdA (N : Int) (c : JM) (i e x : Int) : Prop := (c.2.2 0 i 1 = some x ∧ c.2.2 0 i 2 = none ∧ 8 * e ≤ x ∧ x < 8 * e + 8) ∨ (c.2.2 0 i 1 = none ∧ c.2.2 0 i 2 = some (16 * e + x - 100) ∧ 100 ≤ x ∧ x < 100 + N)
def sdB (N : Int) (c : JM) (i e x : Int) : Prop := (c.2.2 0 i 3 = some x ∧ c.2.2 0 i 4 = none ∧ 8 * e ≤ x ∧ x < 8 * e + 8) ∨ (c.2.2 0 i 3 = none ∧ c.2.2 0 i 4 = some (16 * e + x - 100) ∧ 100 ≤ x ∧ x < 100 + N)
theorem tlk (R : relN f N B H c m) {i : Int} (i0 : 0 ≤ i ∧ i < 72) (h3 : c.1 0 i 9 = 3) : ∃ e, (e = 0 ∨ e = 1) ∧ m.1 135 0 (f i) = e ∧ c.2.2 0 i 0 = some e ∧ sdA N c i e (m.1 136 0 (f i)) ∧ ((sdB N c i e (m.1 137 0 (f i)) ∧ m.1 137 0 (f i) < 200 ∧ c.1 0 i 6 = -1) ∨ (200 ≤ m.1 137 0 (f i) ∧ m.1 137 0 (f i) ≤ 201 ∧ c.2.2 0 i 3 = none ∧ c.2.2 0 i 4 = none ∧ c.1 0 i 6 = m.1 137 0 (f i) - 200)) := by
  have v : lv c i := ⟨i0.1, i0.2, by omega⟩
  have hN : 1 ≤ N ∧ N ≤ 16 := ⟨R.1.2.2.1, R.1.2.2.2.1⟩
  have hm := R.2.2.1.2.2.1 i v
  have ha := R.2.2.1.2.2.2.1 i v
  have hb := R.2.2.1.2.2.2.2.1 i v
  refine ⟨m.1 135 0 (f i), hm.2, rfl, hm.1, ha.imp (fun z => z) (fun z => z), ?_⟩
  rcases hb with z | z | z | z | z
  · omega
  · have := hm.2
    exact Or.inl ⟨Or.inl ⟨z.2.2.1, z.2.2.2.1, z.1, z.2.1⟩, by omega, z.2.2.2.2.1⟩
  · exact Or.inl ⟨Or.inr ⟨z.2.2.1, z.2.2.2.1, z.1, z.2.1⟩, by omega, z.2.2.2.2.1⟩
  · exact Or.inr ⟨z.1, z.2.1, z.2.2.1, z.2.2.2.1, z.2.2.2.2.1⟩
  · omega
theorem sp_of (hf : f_ok f) (R : relN f N B H c m) (Q : r_s N c m) (P : ps N c c1) : sp c1 := by
  have R7 : r_a f B H c m := R.2.2.2.2.2.2.1
  have k0 : ∀ n j, c1.1 0 n j = c.1 0 n j := fun n j => P.2.1 0 n j rfl
  have M : sma m m := ⟨rfl, fun _ _ _ _ _ => rfl⟩
  refine ⟨?_, ?_, fun i a b h3 => ?_, fun i a b h3 => ?_⟩
  · rw [P.2.1 11 0 11 rfl]
    have := R7.1
    omega
  · rw [P.1]; exact R7.2.1
  · rw [k0] at h3
    obtain ⟨e, he, h5, h0, hA, hB⟩ := tlk R ⟨a, b⟩ h3
    rw [k0, P.1]
    rcases hB with ⟨_, _, z⟩ | ⟨z1, z2, _, _, z⟩
    · exact Or.inl z
    · exact Or.inr ⟨by omega, e, he, h0⟩
  · rw [k0] at h3
    obtain ⟨e, he, h5, h0, hA, hB⟩ := tlk R ⟨a, b⟩ h3
    obtain ⟨a1, a2, a3⟩ := sd hf R Q P M he h5 hA
    rw [P.1]
    rcases hB with ⟨z, _, _⟩ | ⟨z1, z2, z3, z4, z5⟩
    · obtain ⟨b1, b2, b3⟩ := sd hf R Q P M he h5 z
      exact ⟨fun l y => y.elim (a3 l) (b3 l), by rw [a2]; exact g_mr a1, by rw [b2]; exact g_mr b1⟩
    · refine ⟨fun l y => y.elim (a3 l) (fun y => by rw [z3] at y; cases y), by rw [a2]; exact g_mr a1, ?_⟩
      rw [z3, z4]
      show (-8191 : Int) ≤ 0 ∧ (0 : Int) ≤ 8191
      exact ⟨by decide, by decide⟩
theorem tw_of (R : relN f N B H c m) (P : ps N c c1) {i : Int} (i0 : 0 ≤ i ∧ i < 72) (h3 : c.1 0 i 9 = 3) (hr : c1.1 0 i 6 ≠ -1 → -1000000 ≤ rS c1 i ∧ rS c1 i ≤ 1000000) : tw c1 i := by
  have v : lv c i := ⟨i0.1, i0.2, by omega⟩
  have wa : d_wa c := R.2.2.1.2.2.2.2.2.2.2.2.2.2.2.2.2.2.2.2.2.1
  have w9 : d_w9 c := R.2.2.1.2.2.2.2.2.2.2.2.2.2.2.2.2.2.2.2.2.2.2.2.2.2.2.2.1
  have t9 : d_t9 c := R.2.2.1.2.2.2.2.2.2.2.2.2.2.2.2.2.2.2.2.2.2.2.2.2.2.2.2.2.2.2.2.2.2.1
  obtain ⟨e, he, h5, h0, hA, hB⟩ := tlk R i0 h3
  refine ⟨hr, ?_, ?_, ?_, ?_⟩
  · rw [P.1]; exact fun n z => (wa n i z).2.2.2.imp id (fun y => y.1)
  · rw [P.1]; exact fun n z => w9 i n v z
  · rw [P.1]; exact fun n z => t9 i n v z
  · rw [P.1, P.2.1 0 i 6 rfl]
    intro z
    rcases hB with ⟨_, _, y⟩ | ⟨_, _, y1, y2, _⟩
    · exact absurd y z
    · exact ⟨y1, y2⟩
theorem u_of (R : relN f N B H c m) (P : ps N c c1) : ∀ i i' n, 0 ≤ i ∧ i < 72 → 0 ≤ i' ∧ i' < 72 → c1.1 0 i 9 = 3 → c1.1 0 i' 9 = 3 → hT c1 i n → hT c1 i' n → i = i' := by
  intro i i' n i0 i1 h3 h4 a b
  have t6 : d_t6 (-1) (-1) c := R.2.2.1.2.2.2.2.2.2.2.2.2.2.2.2.2.2.2.2.2.2.2.2.2.2.2.2.2.2.2.2.2.1
  rw [P.2.1 0 i 9 rfl] at h3
  rw [P.2.1 0 i' 9 rfl] at h4
  unfold hT at a b
  rw [P.1] at a b
  have e1 := t6 i n ⟨i0.1, i0.2, by omega⟩ (by omega) (by omega) a
  have e2 := t6 i' n ⟨i1.1, i1.2, by omega⟩ (by omega) (by omega) b
  rw [e1] at e2
  exact Option.some.inj e2
/-- a talking slot is a talking call's -/
theorem slot (hf : f_ok f) (R : relN f N B H c m) {s : Int} (s0 : 0 ≤ s ∧ s < 80) (h3 : m.1 133 0 s = 3) : ∃ i, (0 ≤ i ∧ i < 72) ∧ f i = s ∧ c.1 0 i 9 = 3 := by
  have st : d_st f c m := R.2.2.1.1
  have sx : d_sx f m := R.2.2.1.2.1
  obtain ⟨i, a, b, e⟩ := hf.2.2.2 s s0.1 s0.2
  by_cases q : i < 72
  · exact ⟨i, ⟨a, q⟩, e, by rw [← (st i a q).1, e]; exact h3⟩
  · have := sx i (by omega) b
    rw [e] at this; omega
theorem tk_of (hf : f_ok f) (R : relN f N B H c m) (Q : r_s N c m) (M : sma m m1) {i : Int} (i0 : 0 ≤ i ∧ i < 72) (h3 : c.1 0 i 9 = 3) : tk m1 (f i) := by
  have v : lv c i := ⟨i0.1, i0.2, by omega⟩
  have la : d_la f c m := R.2.2.1.2.2.2.2.2.2.2.2.2.2.2.2.2.2.1
  have wa : d_wa c := R.2.2.1.2.2.2.2.2.2.2.2.2.2.2.2.2.2.2.2.2.1
  have w9 : d_w9 c := R.2.2.1.2.2.2.2.2.2.2.2.2.2.2.2.2.2.2.2.2.2.2.2.2.2.2.2.1
  have t9 : d_t9 c := R.2.2.1.2.2.2.2.2.2.2.2.2.2.2.2.2.2.2.2.2.2.2.2.2.2.2.2.2.2.2.2.2.2.1
  obtain ⟨e, he, h5, h0, hA, hB⟩ := tlk R i0 h3
  have P : ps N c (hsS N c) := hsS_ps N c
  have p5 := M.2 135 0 (f i) (by decide) (by decide)
  have p6 := M.2 136 0 (f i) (by decide) (by decide)
  have p7 := M.2 137 0 (f i) (by decide) (by decide)
  obtain ⟨a1, a2, a3⟩ := sd hf R Q P M he h5 hA
  refine ⟨by rw [p5, h5]; exact he, by rw [p6]; exact a1, ?_, fun j j0 j1 hj => ?_⟩
  · rw [p6, p7]
    rcases hB with ⟨z, z2, _⟩ | ⟨z1, _⟩
    · obtain ⟨b1, b2, b3⟩ := sd hf R Q P M he h5 z
      refine Or.inl ⟨b1, fun y => ?_⟩
      rw [← y] at z
      rcases hA with q | q <;> rcases z with w | w
      · exact w9 i _ v q.1 w.1
      · omega
      · omega
      · exact t9 i _ v q.2.1 w.2.1
    · exact Or.inr z1
  · rw [M.2 119 0 j (by decide) (by decide), la j j0 j1, rf_eq hf] at hj
    rw [p6, p7]
    have hw := (wa j i hj).2.2.2
    rcases hw with w | ⟨w, _⟩
    · rcases hA with q | q
      · rw [q.1] at w; exact Or.inl (Option.some.inj w).symm
      · rw [q.1] at w; cases w
    · rcases hB with ⟨q | q, _⟩ | q
      · rw [q.1] at w; exact Or.inr (Option.some.inj w).symm
      · rw [q.1] at w; cases w
      · rw [q.2.2.1] at w; cases w
end ST
