/-! ===== speech: one call, in the class ===== -/
theorem f_h27 {o2 : Option Int} {v : Int} (hv : -8191 ≤ v ∧ v ≤ 8191) (c : JM) : ∃ c', F11_hand_27 o2 v c = some c' ∧ c'.2 = c.2 ∧ ∀ k n j, c'.1 k n j = if k = 8 ∧ j = 4 ∧ o2 = some n then s_l0 v else c.1 k n j := by
  unfold F11_hand_27
  cases o2 with
  | none => exact ⟨c, by rw [if_pos rfl], rfl, fun k n j => (if_neg (fun z => absurd z.2.2 (by simp))).symm⟩
  | some t =>
    refine ⟨sI c 8 t 4 (s_l0 v), ?_, rfl, fun k n j => ?_⟩
    · rw [if_neg (by simp), f_byLaw0 hv]; rfl
    · rw [rI_I]
      by_cases q : k = 8 ∧ n = t ∧ j = 4
      · rw [if_pos q, if_pos ⟨q.1, q.2.2, by rw [q.2.1]⟩]
      · rw [if_neg q, if_neg (fun z => q ⟨z.1, (Option.some.inj z.2.2).symm, z.2.1⟩)]
theorem f_hand {i : Int} {o1 o2 : Option Int} {v : Int} (hv : -8191 ≤ v ∧ v ≤ 8191) (c : JM) : ∃ c', F11_hand (some i) o1 o2 v c = some c' ∧ c'.2 = c.2 ∧ ∀ k n j, c'.1 k n j = if k = 4 ∧ j = 19 ∧ o1 = some n ∧ c.2.2 4 n 11 = some i then s_h (j_div (c.1 4 n 0) 8) v else if k = 8 ∧ j = 4 ∧ o2 = some n then s_l0 v else c.1 k n j := by
  unfold F11_hand
  cases o1 with
  | none =>
    obtain ⟨c', e1, e2, e3⟩ := f_h27 (o2 := o2) hv c
    exact ⟨c', by rw [if_pos rfl]; exact e1, e2, fun k n j => by rw [e3, if_neg (c := k = 4 ∧ j = 19 ∧ none = some n ∧ c.2.2 4 n 11 = some i) (fun z => absurd z.2.2.1 (by simp))]⟩
  | some l =>
    rw [if_neg (by simp), Option.bind_some]
    by_cases q : c.2.2 4 l 11 = some i
    · obtain ⟨c', e1, e2, e3⟩ := f_h27 (o2 := o2) hv (sI c 4 l 19 (s_h (j_div (c.1 4 l 0) 8) v))
      refine ⟨c', ?_, e2, fun k n j => ?_⟩
      · rw [if_pos q, f_asHeard hv, Option.bind_some, lt_d]; exact e1
      · rw [e3, rI_I]
        grind
    · obtain ⟨c', e1, e2, e3⟩ := f_h27 (o2 := o2) hv c
      refine ⟨c', by rw [if_neg q]; exact e1, e2, fun k n j => ?_⟩
      rw [e3]
      grind
/-- what a call's sides are handed -/
def gA (c : JM) (i : Int) : Int := g_c c i (c.2.2 0 i 1) (c.2.2 0 i 2)
def gB (c : JM) (i : Int) : Int := g_c c i (c.2.2 0 i 3) (c.2.2 0 i 4)
def rS (c : JM) (i : Int) : Int := match c.2.2 0 i 0 with
  | none => 0
  | some e => c.1 24 e (c.1 0 i 6)
def vA (c : JM) (i : Int) : Int := if c.1 0 i 6 = -1 then gB c i else cl8 (rS c i - gA c i)
def oL (c : JM) (i n : Int) : Int := s_h (j_div (c.1 4 n 0) 8) (if c.2.2 0 i 1 = some n then vA c i else gA c i)
def oT (c : JM) (i n : Int) : Int := s_l0 (if c.2.2 0 i 2 = some n then vA c i else gA c i)
theorem cl8_b (v : Int) : -8191 ≤ cl8 v ∧ cl8 v ≤ 8191 := by
  unfold cl8
  split
  · split <;> omega
  · omega
theorem f_63 {i : Int} {v : Int} (hv : -8191 ≤ v ∧ v ≤ 8191) (c : JM) : ∃ c', F11_carryBetweenSides_63 (some i) v c = some c' ∧ c'.2 = c.2 ∧ ∀ k n j, c'.1 k n j = if k = 4 ∧ j = 19 ∧ c.2.2 0 i 1 = some n ∧ c.2.2 4 n 11 = some i then s_h (j_div (c.1 4 n 0) 8) v else if k = 8 ∧ j = 4 ∧ c.2.2 0 i 2 = some n then s_l0 v else c.1 k n j := by
  obtain ⟨c', e1, e2⟩ := f_hand (i := i) (o1 := c.2.2 0 i 1) (o2 := c.2.2 0 i 2) hv c
  refine ⟨c', ?_, e2⟩
  unfold F11_carryBetweenSides_63
  rw [Option.bind_some, e1, Option.bind_some]
theorem f_carry {c : JM} {i : Int} (hg : (∀ l, c.2.2 0 i 1 = some l ∨ c.2.2 0 i 3 = some l → -8191 ≤ c.1 4 l 18 ∧ c.1 4 l 18 ≤ 8191) ∧ (-8191 ≤ gA c i ∧ gA c i ≤ 8191) ∧ (-8191 ≤ gB c i ∧ gB c i ≤ 8191))
    (hr : c.1 0 i 6 = -1 ∨ ((c.1 0 i 6 = 0 ∨ c.1 0 i 6 = 1) ∧ ∃ e, (e = 0 ∨ e = 1) ∧ c.2.2 0 i 0 = some e)) (hs : c.1 0 i 6 ≠ -1 → -1000000 ≤ rS c i ∧ rS c i ≤ 1000000)
    (hw : ∀ n, c.2.2 4 n 11 = some i → c.2.2 0 i 1 = some n ∨ c.2.2 0 i 3 = some n) (h9 : ∀ n, c.2.2 0 i 1 = some n → c.2.2 0 i 3 ≠ some n) (t9 : ∀ n, c.2.2 0 i 2 = some n → c.2.2 0 i 4 ≠ some n) (hn : c.1 0 i 6 ≠ -1 → c.2.2 0 i 3 = none ∧ c.2.2 0 i 4 = none) :
    ∃ c', F11_carryBetweenSides (some i) c = some c' ∧ c'.2 = c.2 ∧ ∀ k n j, c'.1 k n j = if k = 4 ∧ j = 19 ∧ c.2.2 4 n 11 = some i then oL c i n else if k = 8 ∧ j = 4 ∧ (c.2.2 0 i 2 = some n ∨ c.2.2 0 i 4 = some n) then oT c i n else c.1 k n j := by
  obtain ⟨g0, gAb, gBb⟩ := hg
  have GA : F11_given (some i) (c.2.2 0 i 1) (c.2.2 0 i 2) c = some (gA c i, c) := f_given (fun l z => g0 l (Or.inl z))
  have GB : F11_given (some i) (c.2.2 0 i 3) (c.2.2 0 i 4) c = some (gB c i, c) := f_given (fun l z => g0 l (Or.inr z))
  by_cases q : c.1 0 i 6 = -1
  · have hv : vA c i = gB c i := if_pos q
    obtain ⟨c1, e1, e2, e3⟩ := f_hand (i := i) (o1 := c.2.2 0 i 1) (o2 := c.2.2 0 i 2) gBb c
    obtain ⟨c2, k1, k2, k3⟩ := f_hand (i := i) (o1 := c1.2.2 0 i 3) (o2 := c1.2.2 0 i 4) gAb c1
    refine ⟨c2, ?_, k2.trans e2, fun k n j => ?_⟩
    · unfold F11_carryBetweenSides
      rw [Option.bind_some, GA, Option.bind_some]
      dsimp only
      rw [if_pos q, GB, Option.bind_some]
      dsimp only
      rw [e1, Option.bind_some, k1, Option.bind_some]
    · have c40 : c1.1 4 n 0 = c.1 4 n 0 := by rw [e3, if_neg (fun z => absurd z.2.1 (by decide)), if_neg (fun z => absurd z.1 (by decide))]
      rw [k3, c40, e3]
      unfold oL oT
      rw [hv, e2]
      have a1 := hw n
      have a2 := h9 n
      have a3 := t9 n
      clear GA GB e1 e2 e3 k1 k2 k3 c40 hw h9 t9 hn hr hs g0 gAb gBb hv
      grind (splits := 30)
  · have hv : vA c i = cl8 (rS c i - gA c i) := if_neg q
    obtain ⟨hn1, hn2⟩ := hn q
    have hs := hs q
    rcases hr with z | ⟨r1, e, he, eh⟩
    · exact absurd z q
    have hS : rS c i = c.1 24 e (c.1 0 i 6) := by unfold rS; rw [eh]
    have hW : w32 (c.1 24 e (c.1 0 i 6) - gA c i) = rS c i - gA c i := by rw [← hS]; exact w32_of (by omega) (by omega)
    obtain ⟨c1, e1, e2, e3⟩ := f_63 (i := i) (cl8_b (rS c i - gA c i)) c
    refine ⟨c1, ?_, e2, fun k n j => ?_⟩
    · unfold F11_carryBetweenSides
      rw [Option.bind_some, GA, Option.bind_some]
      dsimp only
      rw [if_neg q, eh, Option.bind_some, g_t (by omega), lt_d, hW]
      unfold cl8 at e1
      by_cases p1 : rS c i - gA c i ≤ 8000
      · rw [if_pos p1] at e1 ⊢
        by_cases p2 : -8000 ≤ rS c i - gA c i
        · rw [if_pos p2] at e1 ⊢; exact e1
        · rw [if_neg p2] at e1 ⊢; exact e1
      · rw [if_neg p1] at e1 ⊢; exact e1
    · rw [e3]
      unfold oL oT
      rw [hv]
      have a1 := hw n
      clear GA GB e1 e2 e3 hw h9 t9 hn hs g0 gAb gBb hv hS hW
      grind
