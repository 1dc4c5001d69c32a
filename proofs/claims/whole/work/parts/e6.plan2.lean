/-! ===== plans are set ===== -/
def c_pl (c : JM) (e r cnt x l k a z : Int) : JM := sL (sI (sR (sI (sI (sI (sI (sL (j_nw c 6 r 0) 6 r 0 x) 6 r 1 l) 6 r 2 k) 6 r 3 a) 6 r 4 z) 22 e cnt (some r)) 1 e 4 (cnt + 1)) 11 0 9 0
def m_pl (h : JM) (e r cnt n l k a z : Int) : JM := sI (sI (sI (sI (sI (sI (sI h 107 0 r n) 108 0 r l) 109 0 r k) 110 0 r a) 111 0 r z) 12 0 4 0) 105 0 e (cnt + 1)
theorem nwI {h : JM} {k : Nat} {n l : Int} {k' : Nat} {n' j' : Int} (a : k' ≠ k ∨ n' ≠ n) (b : k' ≠ k + 1000 ∨ n' ≠ n) : (j_nw h k n l).1 k' n' j' = h.1 k' n' j' := by
  show (if k' = k ∧ n' = n then 0 else if k' = k + 1000 ∧ n' = n then (if j' = 0 then 1 else if j' = 1 then l else h.1 k' n' j') else h.1 k' n' j') = _
  rw [if_neg (fun z => by rcases a with w | w; exact w z.1; exact w z.2), if_neg (fun z => by rcases b with w | w; exact w z.1; exact w z.2)]
theorem nwL {h : JM} {k : Nat} {n l : Int} {k' : Nat} {n' j' : Int} (a : k' ≠ k ∨ n' ≠ n) : (j_nw h k n l).2.1 k' n' j' = h.2.1 k' n' j' := by
  show (if k' = k ∧ n' = n then 0 else h.2.1 k' n' j') = _
  rw [if_neg (fun z => by rcases a with w | w; exact w z.1; exact w z.2)]
theorem nwR {h : JM} {k : Nat} {n l : Int} {k' : Nat} {n' j' : Int} (a : k' ≠ k ∨ n' ≠ n) : (j_nw h k n l).2.2 k' n' j' = h.2.2 k' n' j' := by
  show (if k' = k ∧ n' = n then none else h.2.2 k' n' j') = _
  rw [if_neg (fun z => by rcases a with w | w; exact w z.1; exact w z.2)]
section RS1
variable {f : Int → Int} {N : Int} {c m h' : JM} {B : Int} {e r cnt n x l k a z : Int}
theorem cpI {k' : Nat} {n' j' : Int} (q1 : k' ≠ 1 ∨ n' ≠ e ∨ j' ≠ 4) (q2 : k' ≠ 6 ∨ n' ≠ r) (q3 : k' ≠ 1006 ∨ n' ≠ r) : (c_pl c e r cnt x l k a z).1 k' n' j' = c.1 k' n' j' := by
  have t : ∀ j, k' ≠ 6 ∨ n' ≠ r ∨ j' ≠ j := fun j => by rcases q2 with q | q; exact Or.inl q; exact Or.inr (Or.inl q)
  show (sI (sI (sI (sI (sI (j_nw c 6 r 0) 6 r 1 l) 6 r 2 k) 6 r 3 a) 6 r 4 z) 1 e 4 (cnt + 1)).1 k' n' j' = _
  rw [rI_o q1, rI_o (t 4), rI_o (t 3), rI_o (t 2), rI_o (t 1), nwI q2 q3]
theorem cp1 (e' : Int) : (c_pl c e r cnt x l k a z).1 1 e' 4 = if e' = e then cnt + 1 else c.1 1 e' 4 := by
  by_cases q : e' = e
  · rw [if_pos q, q]
    show (sI (sI (sI (sI (sI (j_nw c 6 r 0) 6 r 1 l) 6 r 2 k) 6 r 3 a) 6 r 4 z) 1 e 4 (cnt + 1)).1 1 e 4 = _
    rw [rI_s]
  · rw [if_neg q, cpI (Or.inr (Or.inl q)) (Or.inl (by decide)) (Or.inl (by decide))]
theorem cp6 : (c_pl c e r cnt x l k a z).1 6 r 1 = l ∧ (c_pl c e r cnt x l k a z).1 6 r 2 = k ∧ (c_pl c e r cnt x l k a z).1 6 r 3 = a ∧ (c_pl c e r cnt x l k a z).1 6 r 4 = z ∧ (c_pl c e r cnt x l k a z).2.1 6 r 0 = x := by
  refine ⟨?_, ?_, ?_, ?_, ?_⟩
  · show (sI (sI (sI (sI (sI (j_nw c 6 r 0) 6 r 1 l) 6 r 2 k) 6 r 3 a) 6 r 4 z) 1 e 4 (cnt + 1)).1 6 r 1 = _
    rw [rI_o (Or.inl (by decide)), rI_o (Or.inr (Or.inr (by decide))), rI_o (Or.inr (Or.inr (by decide))), rI_o (Or.inr (Or.inr (by decide))), rI_s]
  · show (sI (sI (sI (sI (sI (j_nw c 6 r 0) 6 r 1 l) 6 r 2 k) 6 r 3 a) 6 r 4 z) 1 e 4 (cnt + 1)).1 6 r 2 = _
    rw [rI_o (Or.inl (by decide)), rI_o (Or.inr (Or.inr (by decide))), rI_o (Or.inr (Or.inr (by decide))), rI_s]
  · show (sI (sI (sI (sI (sI (j_nw c 6 r 0) 6 r 1 l) 6 r 2 k) 6 r 3 a) 6 r 4 z) 1 e 4 (cnt + 1)).1 6 r 3 = _
    rw [rI_o (Or.inl (by decide)), rI_o (Or.inr (Or.inr (by decide))), rI_s]
  · show (sI (sI (sI (sI (sI (j_nw c 6 r 0) 6 r 1 l) 6 r 2 k) 6 r 3 a) 6 r 4 z) 1 e 4 (cnt + 1)).1 6 r 4 = _
    rw [rI_o (Or.inl (by decide)), rI_s]
  · show (sL (sL (j_nw c 6 r 0) 6 r 0 x) 11 0 9 0).2.1 6 r 0 = _
    rw [rL_o (Or.inl (by decide)), rL_s]
theorem cpL {k' : Nat} {n' j' : Int} (q1 : k' ≠ 11 ∨ n' ≠ 0 ∨ j' ≠ 9) (q2 : k' ≠ 6 ∨ n' ≠ r) : (c_pl c e r cnt x l k a z).2.1 k' n' j' = c.2.1 k' n' j' := by
  show (sL (sL (j_nw c 6 r 0) 6 r 0 x) 11 0 9 0).2.1 k' n' j' = _
  rw [rL_o q1, rL_o (by rcases q2 with q | q; exact Or.inl q; exact Or.inr (Or.inl q)), nwL q2]
theorem cpR {k' : Nat} {n' j' : Int} (q2 : k' ≠ 6 ∨ n' ≠ r) : (c_pl c e r cnt x l k a z).2.2 k' n' j' = if k' = 22 ∧ n' = e ∧ j' = cnt then some r else c.2.2 k' n' j' := by
  show (if k' = 22 ∧ n' = e ∧ j' = cnt then some r else (j_nw c 6 r 0).2.2 k' n' j') = _
  rw [nwR q2]
theorem cp_so : so w_pl c (c_pl c e r cnt x l k a z) := fun k' n' j' q => by
  have q6 : k' ≠ 6 := fun t => by rw [t] at q; simp [w_pl] at q
  have q10 : k' ≠ 1006 := fun t => by rw [t] at q; simp [w_pl] at q
  have q22 : k' ≠ 22 := fun t => by rw [t] at q; simp [w_pl] at q
  have q1 : k' ≠ 1 ∨ n' ≠ e ∨ j' ≠ 4 := by
    by_cases t : k' = 1
    · exact Or.inr (Or.inr (fun s => by rw [t, s] at q; simp [w_pl] at q))
    · exact Or.inl t
  have q11 : k' ≠ 11 ∨ n' ≠ 0 ∨ j' ≠ 9 := by
    by_cases t : k' = 11
    · exact Or.inr (Or.inr (fun s => by rw [t, s] at q; simp [w_pl] at q))
    · exact Or.inl t
  exact ⟨cpI q1 (Or.inl q6) (Or.inl q10), cpL q11 (Or.inl q6), by rw [cpR (Or.inl q6), if_neg (fun t => q22 t.1)]⟩
theorem f_new (he : e = 0 ∨ e = 1) (hc : c.1 1 e 4 = cnt) (h24 : 0 ≤ cnt ∧ cnt < 24) (hx : c.2.1 11 0 9 = x) (hg : c.1 1006 (24 * e + cnt) 0 ≠ 1) :
    g_ (¬ c.1 1006 (24 * e + cnt) 0 = 1) (lt_ (j_nw c 6 (24 * e + cnt) 0) (fun h7 => (F6_init (24 * e + cnt) (h7.2.1 11 0 9) l k a z h7).bind (fun h8 => g_ ((0 : Int) ≤ cnt ∧ cnt < (24 : Int)) (lt_ (sR h8 22 e cnt (some (24 * e + cnt))) (fun h9 => lt_ (sI h9 1 e 4 (w32 ((h9.1 1 e 4) + 1))) (fun h10 => lt_ (sL h10 11 0 9 0) (fun h11 => some (w32 ((h11.1 1 e 4) - 1), h11)))))))) = some (cnt, c_pl c e (24 * e + cnt) cnt x l k a z) := by
  have e1 : (j_nw c 6 (24 * e + cnt) 0).2.1 11 0 9 = x := by rw [nwL (Or.inl (by decide)), hx]
  have e2 : (sR (sI (sI (sI (sI (sL (j_nw c 6 (24 * e + cnt) 0) 6 (24 * e + cnt) 0 x) 6 (24 * e + cnt) 1 l) 6 (24 * e + cnt) 2 k) 6 (24 * e + cnt) 3 a) 6 (24 * e + cnt) 4 z) 22 e cnt (some (24 * e + cnt))).1 1 e 4 = cnt := by
    show (sI (sI (sI (sI (j_nw c 6 (24 * e + cnt) 0) 6 (24 * e + cnt) 1 l) 6 (24 * e + cnt) 2 k) 6 (24 * e + cnt) 3 a) 6 (24 * e + cnt) 4 z).1 1 e 4 = _
    rw [rI_o (Or.inl (by decide)), rI_o (Or.inl (by decide)), rI_o (Or.inl (by decide)), rI_o (Or.inl (by decide)), nwI (Or.inl (by decide)) (Or.inl (by decide)), hc]
  have w1 : w32 (cnt + 1) = cnt + 1 := w32_of (by omega) (by omega)
  have w2 : w32 (cnt + 1 - 1) = cnt := by rw [w32_of (by omega) (by omega)]; omega
  rw [g_t hg, lt_d, e1]
  unfold F6_init
  rw [lt_d, lt_d, lt_d, lt_d, lt_d, Option.bind_some, g_t h24, lt_d, lt_d, lt_d, e2, w1]
  have e3 := cp1 (c := c) (e := e) (r := 24 * e + cnt) (cnt := cnt) (x := x) (l := l) (k := k) (a := a) (z := z) e
  rw [if_pos rfl] at e3
  have e4 : (sL (sI (sR (sI (sI (sI (sI (sL (j_nw c 6 (24 * e + cnt) 0) 6 (24 * e + cnt) 0 x) 6 (24 * e + cnt) 1 l) 6 (24 * e + cnt) 2 k) 6 (24 * e + cnt) 3 a) 6 (24 * e + cnt) 4 z) 22 e cnt (some (24 * e + cnt))) 1 e 4 (cnt + 1)) 11 0 9 0).1 1 e 4 = cnt + 1 := e3
  rw [e4, w2]
  rfl
theorem m_new2 (he : e = 0 ∨ e = 1) (hr : 0 ≤ r ∧ r < 48) (h5 : h'.1 105 0 e = cnt) (hc : 0 ≤ cnt ∧ cnt < 24) (h4 : h'.1 12 0 4 = n) : F12_plan_281b (fun _ _ _ _ _ _ _ _ => none) e l k a z r n h' = some (cnt, (m_pl h' e r cnt n l k a z)) := by
  have w1 : w32 (cnt + 1) = cnt + 1 := w32_of (by omega) (by omega)
  have e1 : (sI (sI (sI (sI (sI (sI h' 107 0 r n) 108 0 r l) 109 0 r k) 110 0 r a) 111 0 r z) 12 0 4 0).1 105 0 e = cnt := by
    rw [rI_o (Or.inl (by decide)), rI_o (Or.inl (by decide)), rI_o (Or.inl (by decide)), rI_o (Or.inl (by decide)), rI_o (Or.inl (by decide)), rI_o (Or.inl (by decide)), h5]
  unfold F12_plan_281b
  rw [h4, if_pos (Int.le_refl _), g_t hr, lt_d, g_t hr, lt_d, g_t hr, lt_d, g_t hr, lt_d, g_t hr, lt_d, lt_d, g_t (by omega), g_t (by omega), e1, w1, lt_d]
  rfl
end RS1
