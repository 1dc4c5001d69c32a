/-! ===== what constructors make: the ground ===== -/
/-- nothing changed but in the cells of P -/
def fr (P : Nat → Int → Prop) (a b : JM) : Prop := ∀ k n, ¬ P k n → ∀ j, b.1 k n j = a.1 k n j ∧ b.2.1 k n j = a.2.1 k n j ∧ b.2.2 k n j = a.2.2 k n j
theorem fr_rfl {P : Nat → Int → Prop} (a : JM) : fr P a a := fun _ _ _ _ => ⟨rfl, rfl, rfl⟩
theorem fr_tr {P : Nat → Int → Prop} {a b d : JM} (h1 : fr P a b) (h2 : fr P b d) : fr P a d := fun k n q j => ⟨(h2 k n q j).1.trans (h1 k n q j).1, (h2 k n q j).2.1.trans (h1 k n q j).2.1, (h2 k n q j).2.2.trans (h1 k n q j).2.2⟩
theorem fr_mono {P Q : Nat → Int → Prop} {a b : JM} (hw : ∀ k n, P k n → Q k n) (h : fr P a b) : fr Q a b := fun k n q j => h k n (fun z => q (hw k n z)) j
theorem ne_P {P : Nat → Int → Prop} {k k' : Nat} {n n' : Int} (p : ¬ P k' n') (q : P k n) : k' ≠ k ∨ n' ≠ n := by
  by_cases z : k' = k
  · exact Or.inr (fun y => p (by rw [z, y]; exact q))
  · exact Or.inl z
theorem ne_P3 {P : Nat → Int → Prop} {k k' : Nat} {n n' j j' : Int} (p : ¬ P k' n') (q : P k n) : k' ≠ k ∨ n' ≠ n ∨ j' ≠ j := by
  rcases ne_P p q with z | z
  · exact Or.inl z
  · exact Or.inr (Or.inl z)
theorem fr_I {P : Nat → Int → Prop} {a b : JM} (h : fr P a b) {k : Nat} {n : Int} (q : P k n) (j v : Int) : fr P a (sI b k n j v) := fun k' n' p j' => by
  refine ⟨?_, (h k' n' p j').2.1, (h k' n' p j').2.2⟩
  rw [rI_o (ne_P3 p q)]
  exact (h k' n' p j').1
theorem fr_L {P : Nat → Int → Prop} {a b : JM} (h : fr P a b) {k : Nat} {n : Int} (q : P k n) (j v : Int) : fr P a (sL b k n j v) := fun k' n' p j' => by
  refine ⟨(h k' n' p j').1, ?_, (h k' n' p j').2.2⟩
  rw [rL_o (ne_P3 p q)]
  exact (h k' n' p j').2.1
theorem rR_s (h : JM) (k : Nat) (n j : Int) (v : Option Int) : (sR h k n j v).2.2 k n j = v := if_pos ⟨rfl, rfl, rfl⟩
theorem rR_o {h : JM} {k : Nat} {n j : Int} {v : Option Int} {k' : Nat} {n' j' : Int} (q : k' ≠ k ∨ n' ≠ n ∨ j' ≠ j) : (sR h k n j v).2.2 k' n' j' = h.2.2 k' n' j' := if_neg (fun z => by rcases q with w | w | w; exact w z.1; exact w z.2.1; exact w z.2.2)
theorem fr_R {P : Nat → Int → Prop} {a b : JM} (h : fr P a b) {k : Nat} {n : Int} (q : P k n) (j : Int) (v : Option Int) : fr P a (sR b k n j v) := fun k' n' p j' => by
  refine ⟨(h k' n' p j').1, (h k' n' p j').2.1, ?_⟩
  rw [rR_o (ne_P3 p q)]
  exact (h k' n' p j').2.2
theorem fr_N {P : Nat → Int → Prop} {a b : JM} (h : fr P a b) {k : Nat} {n : Int} (q : P k n) (q2 : P (k + 1000) n) (v : Int) : fr P a (j_nw b k n v) := fun k' n' p j' => by
  have o1 : k' ≠ k ∨ n' ≠ n := ne_P p q
  have o2 : k' ≠ k + 1000 ∨ n' ≠ n := ne_P p q2
  rw [nwI o1 o2, nwL o1, nwR o1]
  exact h k' n' p j'
/-- a new cell: its own places are empty, its ghost says so -/
theorem nw_I (h : JM) (k : Nat) (n l j : Int) : (j_nw h k n l).1 k n j = 0 := if_pos ⟨rfl, rfl⟩
theorem nw_L (h : JM) (k : Nat) (n l j : Int) : (j_nw h k n l).2.1 k n j = 0 := if_pos ⟨rfl, rfl⟩
theorem nw_R (h : JM) (k : Nat) (n l j : Int) : (j_nw h k n l).2.2 k n j = none := if_pos ⟨rfl, rfl⟩
theorem nw_G (h : JM) (k : Nat) (n l : Int) : (j_nw h k n l).1 (k + 1000) n 1 = l := by
  show (if k + 1000 = k ∧ n = n then 0 else if k + 1000 = k + 1000 ∧ n = n then (if (1 : Int) = 0 then 1 else if (1 : Int) = 1 then l else h.1 (k + 1000) n 1) else h.1 (k + 1000) n 1) = _
  rw [if_neg (fun z => by omega), if_pos ⟨rfl, rfl⟩, if_neg (by decide), if_pos rfl]
/-- a loop that keeps I -/
theorem gl {L : Nat → Int → JM → Option JM} {M : Int} {E : JM → Option JM} {I : Int → JM → Prop} (h0 : ∀ n h, I M h → L (n + 1) M h = E h) (hs : ∀ n i h, 0 ≤ i → i < M → I i h → ∃ h', L (n + 1) i h = L n (i + 1) h' ∧ I (i + 1) h') : ∀ (d fu : Nat) (i : Int) (h : JM), 0 ≤ i → i + d = M → d < fu → I i h → ∃ h', L fu i h = E h' ∧ I M h'
  | _, 0, _, _, _, _, q, _ => by omega
  | 0, fu + 1, i, h, i0, e, _, q => by
    have ei : i = M := by omega
    subst ei
    exact ⟨h, h0 fu h q, q⟩
  | d + 1, fu + 1, i, h, i0, e, q, y => by
    obtain ⟨h1, e1, y1⟩ := hs fu i h i0 (by omega) y
    obtain ⟨h2, e2, y2⟩ := gl h0 hs d fu (i + 1) h1 (by omega) (by omega) (by omega) y1
    exact ⟨h2, by rw [e1, e2], y2⟩
