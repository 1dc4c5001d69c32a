/-! ===== sums, and what a side gives ===== -/
def sm (g : Int → Int) : Nat → Int
  | 0 => 0
  | n + 1 => sm g n + g n
theorem sm_eq {g g' : Int → Int} : ∀ {n : Nat}, (∀ i : Int, 0 ≤ i → i < n → g' i = g i) → sm g' n = sm g n
  | 0, _ => rfl
  | n + 1, h => by
    unfold sm
    rw [sm_eq (n := n) (fun i a b => h i a (by omega)), h n (by omega) (by omega)]
theorem sm_0 {g : Int → Int} : ∀ {n : Nat}, (∀ i : Int, 0 ≤ i → i < n → g i = 0) → sm g n = 0
  | 0, _ => rfl
  | n + 1, h => by
    unfold sm
    rw [sm_0 (n := n) (fun i a b => h i a (by omega)), h n (by omega) (by omega)]
    rfl
theorem sm_b {g : Int → Int} : ∀ {n : Nat}, (∀ i : Int, 0 ≤ i → i < n → -8191 ≤ g i ∧ g i ≤ 8191) → -8191 * (n : Int) ≤ sm g n ∧ sm g n ≤ 8191 * (n : Int)
  | 0, _ => by unfold sm; omega
  | n + 1, h => by
    have h1 := sm_b (n := n) (fun i a b => h i a (by omega))
    have h2 := h n (by omega) (by omega)
    unfold sm
    omega
theorem sm_up {g g' : Int → Int} {s : Int} (hs : 0 ≤ s) : ∀ {n : Nat}, s < n → (∀ i : Int, 0 ≤ i → i < n → i ≠ s → g' i = g i) → sm g' n = sm g n - g s + g' s
  | 0, h, _ => by omega
  | n + 1, h, hp => by
    unfold sm
    by_cases c : s = (n : Int)
    · rw [sm_eq (g := g) (g' := g') (n := n) (fun i a b => hp i a (by omega) (by omega)), c]
      omega
    · rw [sm_up hs (n := n) (by omega) (fun i a b q => hp i a (by omega) q), hp n (by omega) (by omega) (fun z => c z.symm)]
      omega
/-- the same sum, over another numbering -/
theorem sm_re {K : Nat} {a : Int → Int} : ∀ {n : Nat} {g : Int → Int}, (∀ k : Int, 0 ≤ k → k < n → 0 ≤ a k ∧ a k < K) → (∀ k k' : Int, 0 ≤ k → k < n → 0 ≤ k' → k' < n → a k = a k' → k = k') → (∀ s : Int, 0 ≤ s → s < K → g s ≠ 0 → ∃ k : Int, 0 ≤ k ∧ k < n ∧ a k = s) → sm (fun k => g (a k)) n = sm g K
  | 0, g, _, _, h3 => by
    rw [sm_0 (g := g) (n := K) (fun i p q => Classical.byContradiction (fun z => by obtain ⟨k, k1, k2, _⟩ := h3 i p q z; omega))]
    rfl
  | n + 1, g, h1, h2, h3 => by
    have hr := h1 n (by omega) (by omega)
    have hi := sm_re (K := K) (a := a) (n := n) (g := fun s => if s = a n then 0 else g s) (fun k p q => h1 k p (by omega)) (fun k k' p q p' q' => h2 k k' p (by omega) p' (by omega)) (fun s p q z => by
      by_cases e : s = a n
      · exact absurd (if_pos e) z
      · have z' : g s ≠ 0 := fun y => z (by show (if s = a n then 0 else g s) = 0; rw [if_neg e]; exact y)
        obtain ⟨k, k1, k2, k3⟩ := h3 s p q z'
        refine ⟨k, k1, ?_, k3⟩
        have : k ≠ n := fun y => e (by rw [← k3, y])
        omega)
    have h4 := sm_up (g := g) (g' := fun s => if s = a n then 0 else g s) (s := a n) hr.1 (n := K) hr.2 (fun i _ _ q => if_neg q)
    have h5 : (if a n = a n then (0 : Int) else g (a n)) = 0 := if_pos rfl
    have h6 : sm (fun k => g (a k)) n = sm (fun k => if a k = a n then 0 else g (a k)) n := (sm_eq (fun i p q => if_neg (fun y => by have := h2 i n p (by omega) (by omega) (by omega) y; omega))).symm
    show sm (fun k => g (a k)) n + g (a n) = _
    rw [h6]
    have h7 : sm (fun k => if a k = a n then 0 else g (a k)) n = sm (fun s => if s = a n then 0 else g s) K := hi
    rw [h7, h4]
    show sm g K - g (a n) + (if a n = a n then (0 : Int) else g (a n)) + g (a n) = _
    rw [h5]
    omega
/-- what a side gives, in class and reference -/
def g_c (c : JM) (i : Int) (o1 o2 : Option Int) : Int := match o1 with
  | some l => if c.2.2 4 l 11 = some i then s_h (j_div (c.1 4 l 0) 8) (c.1 4 l 18) else 0
  | none => match o2 with
    | none => 0
    | some t => s_b0 (c.1 8 (if t < 16 then t + 16 else t - 16) 5)
def g_m (m : JM) (s x : Int) : Int := if x < 100 then (if m.1 119 0 x = s then s_h (m.1 135 0 s) (m.1 130 0 x) else 0) else s_b0 (m.1 184 0 (16 * (1 - m.1 135 0 s) + x - 100))
theorem f_given {c : JM} {i : Int} {o1 o2 : Option Int} (h : ∀ l, o1 = some l → -8191 ≤ c.1 4 l 18 ∧ c.1 4 l 18 ≤ 8191) : F11_given (some i) o1 o2 c = some (g_c c i o1 o2, c) := by
  unfold F11_given F11_given_55 g_c
  cases o1 with
  | none =>
    rw [if_pos rfl]
    cases o2 with
    | none => rw [if_pos rfl]
    | some t =>
      rw [if_neg (by simp)]
      show (if (some (if t < 16 then t + 16 else t - 16) : Option Int) = none then some ((0 : Int), c) else ((F11_fromLaw0 (c.1 8 (if t < 16 then t + 16 else t - 16) 5) c).bind (fun q2 => some (q2.1, q2.2)))) = _
      rw [if_neg (by simp), f_from0]; rfl
  | some l =>
    rw [if_neg (by simp)]
    show (if c.2.2 4 l 11 = some i then _ else _) = _
    by_cases q : c.2.2 4 l 11 = some i
    · rw [if_pos q, f_asHeard (h l rfl)]
      show some _ = some ((if c.2.2 4 l 11 = some i then _ else _), c)
      rw [if_pos q]
    · rw [if_neg q]
      show some _ = some ((if c.2.2 4 l 11 = some i then _ else _), c)
      rw [if_neg q]
theorem g_cr {c : JM} {i : Int} {o1 o2 : Option Int} (h : ∀ t, o1 = none → o2 = some t → ∃ k : Nat, k < 256 ∧ c.1 8 (if t < 16 then t + 16 else t - 16) 5 = (k : Int)) : -8191 ≤ g_c c i o1 o2 ∧ g_c c i o1 o2 ≤ 8191 := by
  unfold g_c
  cases o1 with
  | none =>
    cases o2 with
    | none => show (-8191 : Int) ≤ 0 ∧ (0 : Int) ≤ 8191; exact ⟨by decide, by decide⟩
    | some t =>
      obtain ⟨k, h1, h2⟩ := h t rfl rfl
      show -8191 ≤ s_b0 (c.1 8 (if t < 16 then t + 16 else t - 16) 5) ∧ s_b0 (c.1 8 (if t < 16 then t + 16 else t - 16) 5) ≤ 8191
      rw [h2]; exact (s_bb k h1).1
  | some l =>
    show -8191 ≤ (if c.2.2 4 l 11 = some i then s_h (j_div (c.1 4 l 0) 8) (c.1 4 l 18) else 0) ∧ (if c.2.2 4 l 11 = some i then s_h (j_div (c.1 4 l 0) 8) (c.1 4 l 18) else 0) ≤ 8191
    split
    · exact s_hr
    · exact ⟨by decide, by decide⟩
theorem m_isC (x : Int) (m : JM) : F12_isCircuit x m = some (if x < 100 then 0 else if 200 ≤ x then 0 else 1, m) := by
  unfold F12_isCircuit F12_isCircuit_17
  split
  · rfl
  · split <;> rfl
theorem n_c1 {e x : Int} (he : e = 0 ∨ e = 1) (h : 100 ≤ x ∧ x < 116) : w32 (w32 (w32 (16 * w32 (1 - e)) + x) - 100) = 16 * (1 - e) + x - 100 ∧ w32 (w32 (w32 (16 * e) + x) - 100) = 16 * e + x - 100 := by
  rw [w32_of (x := 1 - e) (by omega) (by omega), w32_of (x := 16 * (1 - e)) (by omega) (by omega), w32_of (x := 16 * (1 - e) + x) (by omega) (by omega), w32_of (x := 16 * (1 - e) + x - 100) (by omega) (by omega), w32_of (x := 16 * e) (by omega) (by omega), w32_of (x := 16 * e + x) (by omega) (by omega), w32_of (x := 16 * e + x - 100) (by omega) (by omega)]
  exact ⟨rfl, rfl⟩
theorem m_given {m : JM} {s x : Int} (hs : 0 ≤ s ∧ s < 80) (he : m.1 135 0 s = 0 ∨ m.1 135 0 s = 1) (hx : (0 ≤ x ∧ x < 16 ∧ -8191 ≤ m.1 130 0 x ∧ m.1 130 0 x ≤ 8191) ∨ (100 ≤ x ∧ x < 116 ∧ ∃ k : Nat, k < 256 ∧ m.1 184 0 (16 * (1 - m.1 135 0 s) + x - 100) = (k : Int))) : F12_given s x m = some (g_m m s x, m) := by
  unfold F12_given g_m
  rw [g_t hs, lt_d, m_isC]
  generalize m.1 135 0 s = e at he hx ⊢
  rcases hx with ⟨x0, x1, x2⟩ | ⟨x0, x1, k, x2, x3⟩
  · rw [if_pos (by omega), if_pos (by omega)]
    rw [Option.bind_some]
    dsimp only
    rw [if_pos rfl, g_t ⟨x0, x1⟩]
    by_cases q : m.1 119 0 x = s
    · rw [if_pos q, if_pos q, g_t ⟨x0, x1⟩]
      show (F12_heardOf e (m.1 130 0 x) m).bind _ = _
      rw [f_heardOf he x2]; rfl
    · rw [if_neg q, if_neg q]
  · rw [if_neg (by omega), if_neg (by omega), if_neg (by omega)]
    rw [Option.bind_some]
    dsimp only
    rw [if_neg (show ¬ (1 : Int) = 0 by decide), (n_c1 he ⟨x0, x1⟩).1, g_t (by omega), x3, f_back0 x2]; rfl
