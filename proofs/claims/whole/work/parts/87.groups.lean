/-! ===== counts, queues, the array of calls, the ledger ===== -/
def cn (p : Int → Bool) : Nat → Int
  | 0 => 0
  | n + 1 => cn p n + (if p n then 1 else 0)
theorem cn_b (p : Int → Bool) : ∀ n : Nat, 0 ≤ cn p n ∧ cn p n ≤ n
  | 0 => ⟨Int.le_refl 0, Int.le_refl 0⟩
  | n + 1 => by
    have h := cn_b p n
    unfold cn
    split <;> omega
theorem cn_eq {p p' : Int → Bool} : ∀ {n : Nat}, (∀ i : Int, 0 ≤ i → i < n → p' i = p i) → cn p' n = cn p n
  | 0, _ => rfl
  | n + 1, h => by
    unfold cn
    rw [cn_eq (n := n) (fun i a b => h i a (by omega)), h n (by omega) (by omega)]
theorem cn_up {p p' : Int → Bool} {s : Int} (hs : 0 ≤ s) : ∀ {n : Nat}, s < n → (∀ i : Int, 0 ≤ i → i < n → i ≠ s → p' i = p i) → cn p' n = cn p n - (if p s then 1 else 0) + (if p' s then 1 else 0)
  | 0, h, _ => by omega
  | n + 1, h, hp => by
    unfold cn
    by_cases c : s = (n : Int)
    · rw [cn_eq (p := p) (p' := p') (n := n) (fun i a b => hp i a (by omega) (by omega)), c]
      omega
    · rw [cn_up hs (n := n) (by omega) (fun i a b q => hp i a (by omega) q), hp n (by omega) (by omega) (fun z => c z.symm)]
      omega
theorem cn_pos {p : Int → Bool} {s : Int} (hs : 0 ≤ s) : ∀ {n : Nat}, s < n → p s = true → 1 ≤ cn p n
  | 0, h, _ => by omega
  | n + 1, h, hp => by
    have hb := cn_b p n
    unfold cn
    by_cases c : s = (n : Int)
    · rw [← c, hp]; simp; omega
    · have := cn_pos hs (n := n) (by omega) hp
      split <;> omega
/-- pigeons -/
theorem pg_1 : ∀ (K : Nat) (n : Nat) (g : Nat → Int), (∀ i, i < n → 0 ≤ g i ∧ g i < K) → (∀ i j, i < n → j < n → g i = g j → i = j) → n ≤ K
  | 0, n, g, h, _ => by
    rcases Nat.eq_zero_or_pos n with z | z
    · omega
    · have := h 0 z; omega
  | K + 1, n, g, h, hi => by
    by_cases c : ∃ p, p < n ∧ g p = K
    · obtain ⟨p, p1, p2⟩ := c
      -- leave p out
      have := pg_1 K (n - 1) (fun i => if i < p then g i else g (i + 1)) (fun i q => by
        split
        · rename_i q2
          have h1 := h i (by omega)
          have h2 : g i ≠ K := fun z => by have := hi i p (by omega) p1 (by rw [z, p2]); omega
          omega
        · rename_i q2
          have h1 := h (i + 1) (by omega)
          have h2 : g (i + 1) ≠ K := fun z => by have := hi (i + 1) p (by omega) p1 (by rw [z, p2]); omega
          omega) (fun i j a b q => by
        split at q <;> split at q
        · exact hi i j (by omega) (by omega) q
        · have := hi i (j + 1) (by omega) (by omega) q; omega
        · have := hi (i + 1) j (by omega) (by omega) q; omega
        · have := hi (i + 1) (j + 1) (by omega) (by omega) q; omega)
      omega
    · have := pg_1 K n g (fun i q => by
        have h1 := h i q
        have h2 : g i ≠ K := fun z => c ⟨i, q, z⟩
        omega) hi
      omega
/-- who waits for groups -/
def r_q (f : Int → Int) (B : Int) (c m : JM) : Prop :=
  (∀ q, m.1 150 0 q = c.1 2 q 1 ∧ m.1 151 0 q = c.1 2 q 2 ∧ m.1 153 0 q = c.1 2 q 3) ∧
  (∀ q, 0 ≤ q → q < 6 → 0 ≤ m.1 150 0 q ∧ m.1 150 0 q ≤ 8 ∧ (∀ i, 0 ≤ i → i < m.1 150 0 q → c.2.2 25 q i = some (m.1 149 0 (8 * q + i)) ∧ 8 * (q / 3) ≤ m.1 149 0 (8 * q + i) ∧ m.1 149 0 (8 * q + i) < 8 * (q / 3) + 8) ∧ (∀ i j, 0 ≤ i → i < m.1 150 0 q → 0 ≤ j → j < m.1 150 0 q → m.1 149 0 (8 * q + i) = m.1 149 0 (8 * q + j) → i = j)) ∧
  (∀ q, 0 ≤ q → q < 6 → 0 ≤ m.1 153 0 q ∧ ∀ i, 0 ≤ i → i < m.1 153 0 q → ∃ id, lv c id ∧ c.1 0 id 9 = 4 ∧ c.2.2 0 id 5 = some q ∧ m.1 152 0 (80 * q + i) = f id) ∧
  (∀ q i j a b, 0 ≤ q → q < 6 → 0 ≤ i → i < j → j < m.1 153 0 q → m.1 152 0 (80 * q + i) = f a → m.1 152 0 (80 * q + j) = f b → c.1 0 a 14 < c.1 0 b 14) ∧
  (∀ id q, lv c id → c.1 0 id 9 = 4 → c.2.2 0 id 5 = some q → 0 ≤ q ∧ q < 6 ∧ c.1 2 q 4 ≤ c.1 0 id 14 ∧ c.1 0 id 14 ≤ c.1 2 q 5 ∧ ∃ i, 0 ≤ i ∧ i < m.1 153 0 q ∧ m.1 152 0 (80 * q + i) = f id) ∧
  (∀ q, 0 ≤ q → q < 6 → -B ≤ c.1 2 q 4 ∧ c.1 2 q 4 ≤ 1 ∧ 0 ≤ c.1 2 q 5 ∧ c.1 2 q 5 ≤ B ∧ 0 ≤ m.1 151 0 q ∧ m.1 151 0 q ≤ 10)
theorem r_q_many {f : Int → Int} (hf : f_ok f) {B : Int} {c m : JM} (H : r_q f B c m) {q : Int} (q0 : 0 ≤ q) (q1 : q < 6) : m.1 153 0 q ≤ 72 := by
  obtain ⟨_, _, h3, h4, _, _⟩ := H
  obtain ⟨h0, h3⟩ := h3 q q0 q1
  have hx : ∀ i : Nat, ∃ id, i < (m.1 153 0 q).toNat → 0 ≤ id ∧ id < 72 ∧ m.1 152 0 (80 * q + i) = f id := fun i => by
    by_cases z : i < (m.1 153 0 q).toNat
    · obtain ⟨id, a, _, _, d⟩ := h3 i (by omega) (by omega)
      exact ⟨id, fun _ => ⟨a.1, a.2.1, d⟩⟩
    · exact ⟨0, fun w => absurd w z⟩
  let g : Nat → Int := fun i => Classical.choose (hx i)
  have hg : ∀ i, i < (m.1 153 0 q).toNat → 0 ≤ g i ∧ g i < 72 ∧ m.1 152 0 (80 * q + i) = f (g i) := fun i z => Classical.choose_spec (hx i) z
  have hi : ∀ i j : Nat, i < j → j < (m.1 153 0 q).toNat → g i ≠ g j := fun i j a b z => by
    have := h4 q i j (g i) (g j) q0 q1 (by omega) (by omega) (by omega) (hg i (by omega)).2.2 (hg j b).2.2
    rw [z] at this
    omega
  have := pg_1 72 (m.1 153 0 q).toNat g (fun i z => ⟨(hg i z).1, (hg i z).2.1⟩) (fun i j a b z => by
    rcases Nat.lt_trichotomy i j with w | w | w
    · exact absurd z (hi i j w b)
    · exact w
    · exact absurd z.symm (hi j i w a))
  omega
/-- rooms, and how many calls live -/
def rc (m : JM) (e r : Int) : Int := cn (fun s => decide (m.1 133 0 s = 3 ∧ m.1 135 0 s = e ∧ m.1 137 0 s = 200 + r)) 80
def rv (m : JM) : Int := cn (fun s => decide (m.1 133 0 s ≠ -1)) 80
def r_r (c m : JM) : Prop := (∀ e r, e = 0 ∨ e = 1 → r = 0 ∨ r = 1 → c.1 23 e r = rc m e r) ∧ c.1 11 0 13 = rv m ∧ (∀ e r, e = 0 ∨ e = 1 → r = 0 ∨ r = 1 → c.1 23 e r ≤ 8)
/-- the array of calls stands in the order of their making -/
abbrev HT : Type := Int × (Int → Prop)
def r_a (f : Int → Int) (B : Int) (H : HT) (c m : JM) : Prop :=
  (0 ≤ c.1 11 0 11 ∧ c.1 11 0 11 ≤ H.1 ∧ H.1 ≤ 72) ∧
  (∀ i, 0 ≤ i → i < 72 → ∃ id, c.2.2 40 0 i = some id ∧ 0 ≤ id ∧ id < 72) ∧
  (∀ i j, 0 ≤ i → i < 72 → 0 ≤ j → j < 72 → c.2.2 40 0 i = c.2.2 40 0 j → i = j) ∧
  (∀ i id, c.1 11 0 11 ≤ i → i < 72 → c.2.2 40 0 i = some id → c.1 0 id 9 = -1) ∧
  (∀ id, lv c id → ∃ i, 0 ≤ i ∧ i < c.1 11 0 11 ∧ c.2.2 40 0 i = some id) ∧
  (∀ i j a b, 0 ≤ i → i < j → j < c.1 11 0 11 → c.2.2 40 0 i = some a → c.2.2 40 0 j = some b → lv c a → lv c b → m.1 134 0 (f a) < m.1 134 0 (f b)) ∧
  (∀ a, lv c a → 0 ≤ m.1 134 0 (f a) ∧ m.1 134 0 (f a) < m.1 12 0 32) ∧
  (m.1 12 0 32 = c.1 11 0 12 ∧ 0 ≤ c.1 11 0 12 ∧ c.1 11 0 12 ≤ B) ∧
  (∀ a, lv c a → H.2 a)
/-- tariffs and records -/
def r_g (B : Int) (c m : JM) : Prop :=
  (∀ z, 0 ≤ z → z < 4 → c.1 26 0 (4 * z) = m.1 186 0 z ∧ c.1 26 0 (4 * z + 1) = m.1 187 0 z ∧ c.1 26 0 (4 * z + 2) = m.1 188 0 z ∧ c.1 26 0 (4 * z + 3) = m.1 189 0 z ∧ 0 ≤ m.1 186 0 z ∧ m.1 186 0 z ≤ 10000 ∧ 1 ≤ m.1 187 0 z ∧ m.1 187 0 z ≤ 1000 ∧ 0 ≤ m.1 188 0 z ∧ m.1 188 0 z ≤ 200 ∧ 0 ≤ m.1 189 0 z ∧ m.1 189 0 z ≤ 200) ∧
  (∀ j, m.1 191 0 j = c.1 27 0 j) ∧ (m.1 12 0 90 = c.1 3 0 2 ∧ 0 ≤ c.1 3 0 2 ∧ c.1 3 0 2 ≤ B)
/-- one leaves its queue -/
theorem m_lv25 (s q p M : Int) (hq : 0 ≤ q ∧ q < 6) (hp : 0 ≤ p ∧ p < M) (hM : M ≤ 80) : ∀ (fu : Nat) (i : Int) (h : JM), 0 ≤ i → i ≤ M → (M - i).toNat < fu → h.1 153 0 q = M → (i ≤ p → h.1 152 0 (80 * q + p) = s) → (∀ j, i ≤ j → j < M → j ≠ p → h.1 152 0 (80 * q + j) ≠ s) →
    ∃ h' : JM, F12_leaves_25 fu s q (if i ≤ p then i else i - 1) i h = some h' ∧ h'.2 = h.2 ∧ (∀ k' n' j', h'.1 k' n' j' = if k' = 152 ∧ n' = 0 ∧ 80 * q + (if i ≤ p then p else i - 1) ≤ j' ∧ j' < 80 * q + M - 1 then h.1 152 0 (j' + 1) else if k' = 153 ∧ n' = 0 ∧ j' = q then M - 1 else h.1 k' n' j')
  | 0, i, h, _, _, hf, _, _, _ => by omega
  | fu + 1, i, h, h0, h1, hf, hm, hs, hn => by
    show ∃ h' : JM, F12_leaves_25b (F12_leaves_25 fu) s q (if i ≤ p then i else i - 1) i h = some h' ∧ _
    unfold F12_leaves_25b F12_leaves_78
    rw [hm, g_t hq]
    by_cases cc : M ≤ i
    · have ei : i = M := by omega
      rw [if_pos cc, g_t hq, lt_d]
      refine ⟨_, rfl, rfl, fun k' n' j' => ?_⟩
      simp only [rI_I]
      grind
    · have e1 : w32 (80 * q) = 80 * q := w32_of (by omega) (by omega)
      have e2 : w32 (80 * q + i) = 80 * q + i := w32_of (by omega) (by omega)
      have e3 : w32 (i + 1) = i + 1 := w32_of (by omega) (by omega)
      rw [if_neg cc, e1, e2, e3, g_t (by omega)]
      by_cases cp : i = p
      · subst cp
        rw [if_pos (hs (by omega))]
        obtain ⟨h', r1, r2, r3⟩ := m_lv25 s q i M hq hp hM fu (i + 1) h (by omega) (by omega) (by omega) hm (by omega) (fun j a b d => hn j (by omega) b d)
        rw [if_neg (show ¬ i + 1 ≤ i by omega), show i + 1 - 1 = i by omega] at r1 r3
        rw [if_pos (Int.le_refl i)]
        exact ⟨h', r1, r2, r3⟩
      · rw [if_neg (hn i (by omega) (by omega) cp), g_t (by omega)]
        have e4 : w32 (80 * q + (if i ≤ p then i else i - 1)) = 80 * q + (if i ≤ p then i else i - 1) := by split <;> exact w32_of (by omega) (by omega)
        have e5 : w32 ((if i ≤ p then i else i - 1) + 1) = (if i + 1 ≤ p then i + 1 else i + 1 - 1) := by
          by_cases z : i ≤ p
          · rw [if_pos z, if_pos (by omega), w32_of (by omega) (by omega)]
          · rw [if_neg z, if_neg (by omega), w32_of (by omega) (by omega)]; omega
        rw [e4, e5, g_t (by split <;> omega), lt_d]
        obtain ⟨h', r1, r2, r3⟩ := m_lv25 s q p M hq hp hM fu (i + 1) (sI h 152 0 (80 * q + (if i ≤ p then i else i - 1)) (h.1 152 0 (80 * q + i))) (by omega) (by omega) (by omega) (by rw [rI_I]; simp [hm]) (fun z => by
          rw [rI_I, if_neg (by split <;> omega)]; exact hs (by omega)) (fun j a b d => by
          rw [rI_I, if_neg (by split <;> omega)]; exact hn j (by omega) b d)
        refine ⟨h', r1, r2, fun k' n' j' => ?_⟩
        rw [r3]
        simp only [rI_I]
        grind (splits := 20)
theorem m_leaves {m : JM} {s e b q p M : Int} (hs : 0 ≤ s ∧ s < 80) (h1 : m.1 135 0 s = e) (h2 : m.1 137 0 s = b) (he : e = 0 ∨ e = 1) (hb : 300 ≤ b ∧ b ≤ 302) (hq : q = 3 * e + b - 300) (hM : m.1 153 0 q = M) (hp : 0 ≤ p ∧ p < M) (hM2 : M ≤ 80) (hp1 : m.1 152 0 (80 * q + p) = s) (hp2 : ∀ j, 0 ≤ j → j < M → j ≠ p → m.1 152 0 (80 * q + j) ≠ s) :
    ∃ m', F12_leaves s m = some m' ∧ m'.2 = m.2 ∧ (∀ k' n' j', m'.1 k' n' j' = if k' = 152 ∧ n' = 0 ∧ 80 * q + p ≤ j' ∧ j' < 80 * q + M - 1 then m.1 152 0 (j' + 1) else if k' = 153 ∧ n' = 0 ∧ j' = q then M - 1 else m.1 k' n' j') := by
  unfold F12_leaves
  have w1 : w32 (3 * e) = 3 * e := w32_of (by omega) (by omega)
  have w2 : w32 (3 * e + b) = 3 * e + b := w32_of (by omega) (by omega)
  have w3 : w32 (3 * e + b - 300) = q := by rw [w32_of (by omega) (by omega), hq]
  rw [g_t hs, g_t hs, h1, h2, w1, w2, w3, lt_d]
  have z := m_lv25 s q p M (by omega) hp hM2 j_fu 0 m (by omega) (by omega) (by have := so_fu; omega) hM (fun _ => hp1) (fun j a b d => hp2 j a b d)
  rw [if_pos hp.1, if_pos hp.1] at z
  exact z
