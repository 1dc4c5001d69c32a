/-! ===== the dead are swept out: the relation ===== -/
def w_sw (k : Nat) (j : Int) : Bool := k == 40 || (k == 11 && j == 11)
section SW
variable {f : Int → Int} {N : Int} {c m c' : JM} {B : Int} {H H' : HT}
theorem rel_w (hf : f_ok f) (R : relN f N B H c m) (sc : so w_sw c c') (h7 : r_a f B H' c' m) : relN f N B H' c' m := by
  obtain ⟨R1, R2, R3, R4, R5, R6, R7, R8, R9, R10⟩ := R
  refine ⟨?_, ?_, ?_, ?_, ?_, ?_, h7, ?_, ?_, ?_⟩
  · exact r_k_cg (fun k n j q => by have := sc k n j (by simp [rkC] at q; simp [w_sw]; omega); exact ⟨this.1, this.2.2⟩) (fun k n j q => rfl) R1
  · exact r_l_cg (fun k n j q => (sc k n j (by simp [rlC] at q; simp [w_sw]; omega)).1) (fun k n j q => rfl) R2
  · exact r_h_cg (fun k n j q => sc k n j (by simp [rdC] at q; simp [w_sw]; omega)) (fun k n j q => rfl) R3
  · exact fun e he => r_m_cg (fun k n j q => by rcases q with rfl | rfl <;> exact ⟨(sc _ n j rfl).1, (sc _ n j rfl).2.1⟩) (fun k n j a b => rfl) (R4 e he)
  · exact q_cg R5 (fun n => by rw [(sc 0 n 9 rfl).1, (sc 0 n 5 rfl).2.2, (sc 0 n 14 rfl).1]; exact ⟨Iff.rfl, fun _ => ⟨rfl, rfl⟩⟩) hf (fun n j => (sc 2 n j rfl).1) (fun n j => (sc 25 n j rfl).2.2) (fun k j a b => rfl)
  · exact rr_cg R6 (fun s _ _ => ⟨Iff.rfl, fun _ _ _ _ => Iff.rfl⟩) (fun e r => (sc 23 e r rfl).1) (sc 11 0 13 rfl).1
  · exact g_cg R8 (fun j => (sc 26 0 j rfl).1) (fun j => (sc 27 0 j rfl).1) (sc 3 0 2 rfl).1 (fun k j a b => rfl) rfl
  · exact r_p_cg (fun k n j q => sc k n j (by simp [rpC] at q; simp [w_sw]; omega)) (fun k n j q => rfl) R9
  · exact r_f_cg (fun k n j q => sc k n j (by simp [rpC] at q; simp [w_sw]; omega)) (fun k n j q => rfl) R10
/-- a live call's own line, or its own circuit -/
def kk (c : JM) (i : Int) : Int := match c.2.2 0 i 1 with
  | some l => l
  | none => match c.2.2 0 i 2 with
    | some t => 16 + t
    | none => 0
theorem kk_of (R : relN f N B H c m) {i : Int} (v : lv c i) : (∃ l, c.2.2 0 i 1 = some l ∧ kk c i = l ∧ 0 ≤ l ∧ l < 16) ∨ (∃ t, c.2.2 0 i 2 = some t ∧ kk c i = 16 + t ∧ 0 ≤ t ∧ t < 32) := by
  have hN : 1 ≤ N ∧ N ≤ 16 := ⟨R.1.2.2.1, R.1.2.2.2.1⟩
  have hm := (R.2.2.1.2.2.1 i v).2
  have ha := R.2.2.1.2.2.2.1 i v
  unfold kk
  rcases ha with q | q
  · exact Or.inl ⟨_, q.1, by rw [q.1], by omega, by omega⟩
  · exact Or.inr ⟨_, q.2.1, by rw [q.1, q.2.1], by omega, by omega⟩
theorem kk_inj (R : relN f N B H c m) {i j : Int} (v : lv c i) (w : lv c j) (h : kk c i = kk c j) : i = j := by
  have w8 : d_w8 c := R.2.2.1.2.2.2.2.2.2.2.2.2.2.2.2.2.2.2.2.2.2.2.2.2.2.2.1
  have t6 : d_t6 (-1) (-1) c := R.2.2.1.2.2.2.2.2.2.2.2.2.2.2.2.2.2.2.2.2.2.2.2.2.2.2.2.2.2.2.2.2.1
  have v0 := v.1
  have w0 := w.1
  rcases kk_of R v with ⟨l, a1, a2, a3, a4⟩ | ⟨t, a1, a2, a3, a4⟩ <;> rcases kk_of R w with ⟨l', b1, b2, b3, b4⟩ | ⟨t', b1, b2, b3, b4⟩
  · have e : l' = l := by omega
    rw [e] at b1
    exact w8 i j l v w a1 b1
  · omega
  · omega
  · have e : t' = t := by omega
    rw [e] at b1
    have e1 := t6 i t v (by omega) (by omega) (Or.inl a1)
    have e2 := t6 j t w (by omega) (by omega) (Or.inl b1)
    rw [e1] at e2
    exact Option.some.inj e2
theorem l_48 (R : relN f N B H c m) {A : Int → Option Int} {L : Int} (h0 : 0 ≤ L) (h1 : ∀ i, 0 ≤ i → i < L → ∃ id, A i = some id ∧ lv c id) (h2 : ∀ i j, 0 ≤ i → i < L → 0 ≤ j → j < L → A i = A j → i = j) : L ≤ 48 := by
  have := pg_1 48 L.toNat (fun i => kk c ((A i).getD 0)) (fun i q => by
    obtain ⟨id, e, v⟩ := h1 i (by omega) (by omega)
    show 0 ≤ kk c ((A i).getD 0) ∧ kk c ((A i).getD 0) < ((48 : Nat) : Int)
    rw [e]
    show 0 ≤ kk c id ∧ kk c id < ((48 : Nat) : Int)
    rcases kk_of R v with ⟨l, a1, a2, a3, a4⟩ | ⟨t, a1, a2, a3, a4⟩ <;> omega) (fun i j q q' z => by
    obtain ⟨id, e, v⟩ := h1 i (by omega) (by omega)
    obtain ⟨id', e', v'⟩ := h1 j (by omega) (by omega)
    have z' : kk c ((A i).getD 0) = kk c ((A j).getD 0) := z
    rw [e, e'] at z'
    have := h2 i j (by omega) (by omega) (by omega) (by omega) (by rw [e, e']; exact congrArg some (kk_inj R v v' z'))
    omega)
  omega
theorem sm_all {g : Int → Int} : ∀ {n : Nat}, (∀ i : Int, 0 ≤ i → i < n → g i = 0 ∨ g i = 1) → sm g n ≤ n ∧ (sm g n = n → ∀ i : Int, 0 ≤ i → i < n → g i = 1)
  | 0, _ => ⟨by show (0 : Int) ≤ _; omega, fun _ i a b => by omega⟩
  | n + 1, h => by
    have hi := sm_all (n := n) (fun i a b => h i a (by omega))
    have hn := h n (by omega) (by omega)
    have e : sm g (n + 1) = sm g n + g n := rfl
    refine ⟨by omega, fun z i a b => ?_⟩
    by_cases q : i = n
    · rw [q]; omega
    · exact hi.2 (by omega) i a (by omega)
theorem cn_sm (p : Int → Bool) : ∀ n : Nat, cn p n = sm (fun s => if p s then 1 else 0) n
  | 0 => rfl
  | n + 1 => by
    show cn p n + (if p n then 1 else 0) = sm (fun s => if p s then 1 else 0) n + (if p n then 1 else 0)
    rw [cn_sm p n]
/-- as many as live stand in the array: then all of them live -/
theorem all_live (hf : f_ok f) (R : relN f N B H c m) (h : c.1 11 0 11 = c.1 11 0 13) : ∀ k, 0 ≤ k → k < c.1 11 0 11 → ∃ id, c.2.2 40 0 k = some id ∧ lv c id := by
  obtain ⟨q1, q2, q3, q4, q5, _⟩ := (R.2.2.2.2.2.2.1 : r_a f B H c m)
  have st : d_st f c m := R.2.2.1.1
  have sx : d_sx f m := R.2.2.1.2.1
  have hv : c.1 11 0 13 = rv m := R.2.2.2.2.2.1.2.1
  have e1 : rv m = sm (fun s => if decide (m.1 133 0 s ≠ -1) then 1 else 0) 80 := cn_sm _ 80
  have e2 : sm (fun k => (fun s => if decide (m.1 133 0 s ≠ -1) then (1 : Int) else 0) (f ((c.2.2 40 0 k).getD 0))) (c.1 11 0 11).toNat = sm (fun s => if decide (m.1 133 0 s ≠ -1) then 1 else 0) 80 := by
    refine sm_re (K := 80) (a := fun k => f ((c.2.2 40 0 k).getD 0)) (g := fun s => if decide (m.1 133 0 s ≠ -1) then 1 else 0) (fun k a b => ?_) (fun k k' a b a' b' z => ?_) (fun s a b z => ?_)
    · obtain ⟨i, ei, i0, i1⟩ := q2 k a (by omega)
      show 0 ≤ f ((c.2.2 40 0 k).getD 0) ∧ f ((c.2.2 40 0 k).getD 0) < 80
      rw [ei]
      exact hf.2.2.1 i i0 (by omega)
    · obtain ⟨i, ei, i0, i1⟩ := q2 k a (by omega)
      obtain ⟨i', ei', i0', i1'⟩ := q2 k' a' (by omega)
      have z' : f ((c.2.2 40 0 k).getD 0) = f ((c.2.2 40 0 k').getD 0) := z
      rw [ei, ei'] at z'
      exact q3 k k' a (by omega) a' (by omega) (by rw [ei, ei']; exact congrArg some (hf.1 i i' z'))
    · have h3 : m.1 133 0 s ≠ -1 := fun y => z (by show (if decide (m.1 133 0 s ≠ -1) then (1 : Int) else 0) = 0; rw [y]; rfl)
      obtain ⟨i, x, y, e⟩ := hf.2.2.2 s a b
      have i72 : i < 72 := Classical.byContradiction (fun w => h3 (by rw [← e]; exact sx i (by omega) y))
      have v : lv c i := ⟨x, i72, by rw [← (st i x i72).1, e]; exact h3⟩
      obtain ⟨k, k0, k1, k2⟩ := q5 i v
      refine ⟨k, k0, by omega, ?_⟩
      show f ((c.2.2 40 0 k).getD 0) = s
      rw [k2]
      exact e
  intro k k0 k1
  obtain ⟨i, ei, i0, i1⟩ := q2 k k0 (by omega)
  have ha := (sm_all (g := fun k => (fun s => if decide (m.1 133 0 s ≠ -1) then (1 : Int) else 0) (f ((c.2.2 40 0 k).getD 0))) (n := (c.1 11 0 11).toNat) (fun i _ _ => by
    show (if decide (m.1 133 0 (f ((c.2.2 40 0 i).getD 0)) ≠ -1) then (1 : Int) else 0) = 0 ∨ (if decide (m.1 133 0 (f ((c.2.2 40 0 i).getD 0)) ≠ -1) then (1 : Int) else 0) = 1
    split
    · exact Or.inr rfl
    · exact Or.inl rfl)).2 (by rw [e2, ← e1, ← hv, ← h]; omega) k k0 (by omega)
  have ha' : (if decide (m.1 133 0 (f ((c.2.2 40 0 k).getD 0)) ≠ -1) then (1 : Int) else 0) = 1 := ha
  rw [ei] at ha'
  have h3 : m.1 133 0 (f i) ≠ -1 := fun y => by
    have : m.1 133 0 (f ((some i : Option Int).getD 0)) = -1 := y
    rw [this] at ha'; exact absurd ha' (by decide)
  exact ⟨i, ei, i0, i1, by rw [← (st i i0 i1).1]; exact h3⟩
theorem p_sweep (hf : f_ok f) (R : relN f N B H c m) : ∃ c', F11_sweepCalls c = some c' ∧ relN f N B (48, aL) c' m ∧ so w_sw c c' := by
  have h100 := so_fu
  have R7 := (R.2.2.2.2.2.2.1 : r_a f B H c m)
  obtain ⟨q1, q2, q3, q4, q5, q6, q7, q8, q9⟩ := R7
  unfold F11_sweepCalls
  by_cases h : c.1 11 0 11 = c.1 11 0 13
  · rw [if_pos h]
    have L := l_48 R (A := fun x => c.2.2 40 0 x) (L := c.1 11 0 11) q1.1 (all_live hf R h) (fun i j a b a' b' z => q3 i j a (by omega) a' (by omega) z)
    exact ⟨c, rfl, rel_w hf R (so_rfl c) ⟨⟨q1.1, L, by decide⟩, q2, q3, q4, q5, q6, q7, q8, fun _ _ => trivial⟩, so_rfl c⟩
  · rw [if_neg h]
    obtain ⟨c2, L, e1, e2, e3, e4, e5⟩ := f_sw (f := f) (c := c) (m := m) (by omega) (c.1 11 0 11).toNat j_fu 0 0 c ⟨rfl, rfl, fun _ _ _ _ => rfl⟩ ⟨q2, q3, fun i id a b => by omega, fun i id a b => by omega, q4, fun id v => by
      obtain ⟨i, a, b, e⟩ := q5 id v
      exact ⟨i, Or.inr ⟨a, b⟩, e⟩, fun i j a b x y _ _ w => q6 i j a b x y w⟩ (by omega) (by omega) (by omega) (by omega)
    obtain ⟨s1, s2, s3, s4, s5, s6, s7⟩ := e3
    have ci : ∀ k n j, (sI c2 11 0 11 L).1 k n j = if k = 11 ∧ n = 0 ∧ j = 11 then L else c.1 k n j := fun k n j => by rw [rI_I, e2.1]
    have c0 : ∀ n j, (sI c2 11 0 11 L).1 0 n j = c.1 0 n j := fun n j => by rw [ci, if_neg (fun z => absurd z.1 (by decide))]
    have cL : (sI c2 11 0 11 L).1 11 0 11 = L := by rw [ci, if_pos ⟨rfl, rfl, rfl⟩]
    have c12 : (sI c2 11 0 11 L).1 11 0 12 = c.1 11 0 12 := by rw [ci, if_neg (fun z => absurd z.2.2 (by decide))]
    have lv' : ∀ i, lv (sI c2 11 0 11 L) i ↔ lv c i := fun i => by unfold lv; rw [c0]
    have sc : so w_sw c (sI c2 11 0 11 L) := fun k n j z => by
      have z1 : k ≠ 40 ∧ ¬ (k = 11 ∧ j = 11) := by simp [w_sw] at z; exact ⟨z.1, fun y => z.2 y.1 y.2⟩
      refine ⟨by rw [ci, if_neg (fun y => z1.2 ⟨y.1, y.2.2⟩)], ?_, ?_⟩
      · show c2.2.1 k n j = _
        rw [e2.2.1]
      · show c2.2.2 k n j = _
        exact e2.2.2 k n j (Or.inl z1.1)
    have LL := l_48 R (A := fun x => c2.2.2 40 0 x) (L := L) e4 (fun i a b => by
      obtain ⟨id, x, y, z⟩ := s1 i a (by omega)
      exact ⟨id, x, y, z, s3 i id a b x⟩) (fun i j a b a' b' z => s2 i j a (by omega) a' (by omega) z)
    refine ⟨_, e1, rel_w hf R sc ⟨⟨by rw [cL]; exact e4, by rw [cL]; exact LL, by decide⟩, s1, s2, fun i id a b z => ?_, fun id v => ?_, fun i j a b x y z w u v v' => ?_, fun a v => q7 a ((lv' a).mp v), by rw [c12]; exact q8, fun _ _ => trivial⟩, sc⟩
    · rw [cL] at a
      rw [c0]
      by_cases y : i < c.1 11 0 11
      · exact s4 i id a y z
      · exact s5 i id (by omega) b z
    · obtain ⟨i, x, y⟩ := s6 id ((lv' id).mp v)
      exact ⟨i, by omega, by rw [cL]; omega, y⟩
    · rw [cL] at z
      exact s7 i j a b x y (Or.inl (by omega)) (Or.inl z) (by omega) w u ((lv' a).mp v) ((lv' b).mp v')
end SW
