/-! ===== speech: the same in both ===== -/
section SU
variable {f : Int → Int} {N : Int} {c m c0 c1 m0 : JM} {B : Int} {H : HT}
theorem hT_iff (R : relN f N B H c m) (P : ps N c c1) (M : sma m m0) {i : Int} (i0 : 0 ≤ i ∧ i < 72) (h3 : c.1 0 i 9 = 3) (j : Int) : hTm m0 (f i) j ↔ hT c1 i j := by
  obtain ⟨e, he, h5, h0, hA, hB⟩ := tlk R i0 h3
  have hN : 1 ≤ N ∧ N ≤ 16 := ⟨R.1.2.2.1, R.1.2.2.2.1⟩
  unfold hTm hT
  rw [P.1, M.2 135 0 (f i) (by decide) (by decide), M.2 136 0 (f i) (by decide) (by decide), M.2 137 0 (f i) (by decide) (by decide), h5]
  generalize m.1 136 0 (f i) = x at *
  generalize m.1 137 0 (f i) = y at *
  have a : (100 ≤ x ∧ j = 16 * e + x - 100) ↔ c.2.2 0 i 2 = some j := by
    rcases hA with q | q
    · rw [q.2.1]
      exact ⟨fun z => by omega, fun z => by cases z⟩
    · rw [q.2.1]
      exact ⟨fun z => by rw [z.2], fun z => ⟨q.2.2.1, (Option.some.inj z).symm⟩⟩
  have b : (100 ≤ y ∧ y < 200 ∧ j = 16 * e + y - 100) ↔ c.2.2 0 i 4 = some j := by
    rcases hB with ⟨q | q, q2, _⟩ | q
    · rw [q.2.1]
      exact ⟨fun z => by omega, fun z => by cases z⟩
    · rw [q.2.1]
      exact ⟨fun z => by rw [z.2.2], fun z => ⟨q.2.2.1, q2, (Option.some.inj z).symm⟩⟩
    · rw [q.2.2.2.1]
      exact ⟨fun z => by omega, fun z => by cases z⟩
  rw [a, b]
/-- what a slot gives to a room -/
def gR (m : JM) (e r s : Int) : Int := if m.1 133 0 s = 3 ∧ m.1 135 0 s = e ∧ m.1 137 0 s = 200 + r then g_m m s (m.1 136 0 s) else 0
theorem gA_eq (hf : f_ok f) (R : relN f N B H c m) (Q : r_s N c m) (P : ps N c c1) (M : sma m m0) {i : Int} (i0 : 0 ≤ i ∧ i < 72) (h3 : c.1 0 i 9 = 3) : gA c1 i = g_m m0 (f i) (m0.1 136 0 (f i)) := by
  obtain ⟨e, he, h5, h0, hA, hB⟩ := tlk R i0 h3
  obtain ⟨a1, a2, a3⟩ := sd hf R Q P M he h5 hA
  unfold gA
  rw [P.1, M.2 136 0 (f i) (by decide) (by decide)]
  exact a2
theorem tA_eq (hf : f_ok f) (R : relN f N B H c m) (Q : r_s N c m) (P : ps N c c1) (M : sma m m0) {i e r : Int} (i0 : 0 ≤ i ∧ i < 72) (hr : r = 0 ∨ r = 1) : tA c1 e r i = gR m0 e r (f i) := by
  have st : d_st f c m := R.2.2.1.1
  have h9 := (st i i0.1 i0.2).1
  unfold tA gR
  rw [M.2 133 0 (f i) (by decide) (by decide), M.2 135 0 (f i) (by decide) (by decide), M.2 137 0 (f i) (by decide) (by decide), h9, P.2.1 0 i 9 rfl, P.2.1 0 i 6 rfl]
  by_cases h3 : c.1 0 i 9 = 3
  · obtain ⟨e', he, h5, h0, hA, hB⟩ := tlk R i0 h3
    have g := gA_eq hf R Q P M i0 h3
    unfold gA at g
    rw [g, P.1, h0, h5]
    have q : (c.1 0 i 9 = 3 ∧ c.1 0 i 6 = r ∧ some e' = some e) ↔ (c.1 0 i 9 = 3 ∧ e' = e ∧ m.1 137 0 (f i) = 200 + r) := by
      rw [Option.some.injEq]
      rcases hB with ⟨_, z1, z2⟩ | ⟨z1, z2, _, _, z3⟩
      · constructor
        · intro y; omega
        · intro y; omega
      · constructor
        · intro y; exact ⟨y.1, y.2.2, by omega⟩
        · intro y; exact ⟨y.1, by omega, y.2.1⟩
    by_cases z : c.1 0 i 9 = 3 ∧ c.1 0 i 6 = r ∧ some e' = some e
    · rw [if_pos z, if_pos (q.mp z)]
    · rw [if_neg z, if_neg (fun y => z (q.mpr y))]
  · rw [if_neg (fun z => h3 z.1), if_neg (fun z => h3 z.1)]
/-- the sums of rooms are the same -/
theorem sum_eq (hf : f_ok f) (R : relN f N B H c m) (Q : r_s N c m) (P : ps N c c0) (M : sma m m0) {e r : Int} (hr : r = 0 ∨ r = 1) : sm (tC c0 e r) (c0.1 11 0 11).toNat = sm (gR m0 e r) 80 := by
  have R7 : r_a f B H c m := R.2.2.2.2.2.2.1
  obtain ⟨q1, q2, q3, q4, q5, _⟩ := R7
  have hn : c0.1 11 0 11 = c.1 11 0 11 := P.2.1 11 0 11 rfl
  have e1 : sm (tC c0 e r) (c0.1 11 0 11).toNat = sm (fun k => gR m0 e r (f ((c.2.2 40 0 k).getD 0))) (c0.1 11 0 11).toNat := sm_eq (fun k a b => by
    obtain ⟨i, ei, i0, i1⟩ := q2 k a (by omega)
    unfold tC
    rw [P.1, ei]
    exact tA_eq hf R Q P M ⟨i0, i1⟩ hr)
  rw [e1]
  refine sm_re (K := 80) (a := fun k => f ((c.2.2 40 0 k).getD 0)) (g := gR m0 e r) (fun k a b => ?_) (fun k k' a b a' b' z => ?_) (fun s a b z => ?_)
  · obtain ⟨i, ei, i0, i1⟩ := q2 k a (by omega)
    show 0 ≤ f ((c.2.2 40 0 k).getD 0) ∧ f ((c.2.2 40 0 k).getD 0) < 80
    rw [ei]
    exact hf.2.2.1 i i0 (by omega)
  · obtain ⟨i, ei, i0, i1⟩ := q2 k a (by omega)
    obtain ⟨i', ei', i0', i1'⟩ := q2 k' a' (by omega)
    have z' : f ((c.2.2 40 0 k).getD 0) = f ((c.2.2 40 0 k').getD 0) := z
    rw [ei, ei'] at z'
    exact q3 k k' a (by omega) a' (by omega) (by rw [ei, ei']; exact congrArg some (hf.1 i i' z'))
  · have h3 : m0.1 133 0 s = 3 := Classical.byContradiction (fun y => z (if_neg (fun w => y w.1)))
    rw [M.2 133 0 s (by decide) (by decide)] at h3
    obtain ⟨i, i0, ei, i3⟩ := slot hf R ⟨a, b⟩ h3
    obtain ⟨k, k0, k1, k2⟩ := q5 i ⟨i0.1, i0.2, by omega⟩
    refine ⟨k, k0, by omega, ?_⟩
    show f ((c.2.2 40 0 k).getD 0) = s
    rw [k2]
    exact ei
theorem oM_sum {m0 : JM} {x : Int} (hx : 0 ≤ x ∧ x < 80) (h3 : m0.1 133 0 x = 3) {r : Int} (hr : m0.1 137 0 x = 200 + r) : sm (oM m0 x) 80 = sm (gR m0 (m0.1 135 0 x) r) 80 - g_m m0 x (m0.1 136 0 x) := by
  have h := sm_up (g := gR m0 (m0.1 135 0 x) r) (g' := oM m0 x) (s := x) hx.1 (n := 80) hx.2 (fun s _ _ q => by
    unfold oM gR
    rw [if_neg q, hr])
  have h1 : gR m0 (m0.1 135 0 x) r x = g_m m0 x (m0.1 136 0 x) := if_pos ⟨h3, rfl, hr⟩
  have h2 : oM m0 x x = 0 := if_pos rfl
  rw [h, h1, h2]; omega
theorem vA_eq (hf : f_ok f) (R : relN f N B H c m) (Q : r_s N c m) (P0 : ps N c c0) (P : ps N c c1) (M : sma m m0) (hs : ∀ e r, e = 0 ∨ e = 1 → r = 0 ∨ r = 1 → c1.1 24 e r = sm (tC c0 e r) (c0.1 11 0 11).toNat) {i : Int} (i0 : 0 ≤ i ∧ i < 72) (h3 : c.1 0 i 9 = 3) : vA c1 i = vAm m0 (f i) := by
  have st : d_st f c m := R.2.2.1.1
  have h9 := (st i i0.1 i0.2).1
  have fi := hf.2.2.1 i i0.1 (by omega)
  obtain ⟨e, he, h5, h0, hA, hB⟩ := tlk R i0 h3
  have p3 := M.2 133 0 (f i) (by decide) (by decide)
  have p5 := M.2 135 0 (f i) (by decide) (by decide)
  have p7 := M.2 137 0 (f i) (by decide) (by decide)
  have g := gA_eq hf R Q P M i0 h3
  unfold vA vAm
  rcases hB with ⟨z, z1, z2⟩ | ⟨z1, z2, _, _, z3⟩
  · obtain ⟨b1, b2, b3⟩ := sd hf R Q P M he h5 z
    rw [if_pos (by rw [P.2.1 0 i 6 rfl]; exact z2), if_pos (by omega), p7]
    unfold gB
    rw [P.1]; exact b2
  · have hr : c.1 0 i 6 = 0 ∨ c.1 0 i 6 = 1 := by omega
    have e1 : rS c1 i = c1.1 24 e (c.1 0 i 6) := by unfold rS; rw [P.1, h0, P.2.1 0 i 6 rfl]
    rw [if_neg (by rw [P.2.1 0 i 6 rfl]; omega), if_neg (by omega), e1, hs e _ he hr, sum_eq hf R Q P0 M hr, g, oM_sum (r := c.1 0 i 6) fi (by rw [p3, h9]; exact h3) (by omega), p5, h5]
end SU
