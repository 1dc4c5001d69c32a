/-! ===== plans, features; the whole relation of calls ===== -/
def r_p (c m : JM) : Prop := ∀ e, e = 0 ∨ e = 1 → m.1 105 0 e = c.1 1 e 4 ∧ 0 ≤ m.1 105 0 e ∧ m.1 105 0 e ≤ 24 ∧ ∀ r, 24 * e ≤ r → r < 24 * e + m.1 105 0 e → c.2.2 22 e (r - 24 * e) = some r ∧ k_R (c.2.1 6 r 0) (m.1 107 0 r) (fun j => m.1 106 0 (12 * r + j)) ∧ 1 ≤ m.1 107 0 r ∧ m.1 107 0 r ≤ m.1 108 0 r ∧ m.1 108 0 r ≤ 12 ∧ c.1 6 r 1 = m.1 108 0 r ∧ c.1 6 r 2 = m.1 109 0 r ∧ c.1 6 r 3 = m.1 110 0 r ∧ c.1 6 r 4 = m.1 111 0 r ∧ 0 ≤ m.1 111 0 r ∧ m.1 111 0 r ≤ 3 ∧ ((m.1 109 0 r = 0 ∧ 8 * e ≤ m.1 110 0 r ∧ m.1 110 0 r < 8 * e + 8) ∨ ((m.1 109 0 r = 1 ∨ m.1 109 0 r = 2) ∧ 0 ≤ m.1 110 0 r ∧ m.1 110 0 r ≤ m.1 108 0 r) ∨ (m.1 109 0 r = 3 ∧ 0 ≤ m.1 110 0 r ∧ m.1 110 0 r ≤ 2) ∨ (m.1 109 0 r = 4 ∧ 0 ≤ m.1 110 0 r ∧ m.1 110 0 r ≤ 1))
def r_f (c m : JM) : Prop := ∀ l w, 0 ≤ l → l < 16 → 0 ≤ w → w < 3 → m.1 127 0 (3 * l + w) = c.1 28 l w ∧ (c.1 28 l w = 0 ∨ c.1 28 l w = 1) ∧ k_R (c.2.1 29 l w) (m.1 129 0 (3 * l + w)) (fun j => m.1 128 0 (12 * (3 * l + w) + j))
def rel (f : Int → Int) (N z1 z2 X : Int) (sec : Option Int) (Y zd B : Int) (H : HT) (c m : JM) : Prop := r_k N c m ∧ r_l X c m ∧ r_h f N z1 z2 X sec Y zd c m ∧ (∀ e, e = 0 ∨ e = 1 → r_m B c m e) ∧ r_q f B c m ∧ r_r c m ∧ r_a f B H c m ∧ r_g B c m ∧ r_p c m ∧ r_f c m
section RO
variable {f : Int → Int} {N z1 z2 X : Int} {sec : Option Int} {Y zd : Int} {c m c' m' : JM} {B : Int} {H : HT}
def rpC (k : Nat) (j : Int) : Bool := (k == 1 && j == 4) || k == 22 || k == 6 || k == 28 || k == 29
def rpM (k : Nat) : Bool := k == 105 || k == 106 || k == 107 || k == 108 || k == 109 || k == 110 || k == 111 || k == 127 || k == 128 || k == 129
theorem r_p_cg (hc : ∀ k n j, rpC k j = true → c'.1 k n j = c.1 k n j ∧ c'.2.1 k n j = c.2.1 k n j ∧ c'.2.2 k n j = c.2.2 k n j) (hm : ∀ k n j, rpM k = true → m'.1 k n j = m.1 k n j) (H : r_p c m) : r_p c' m' := by
  have a0 : ∀ n, c'.1 1 n 4 = c.1 1 n 4 := fun n => (hc 1 n 4 rfl).1
  have a1 : ∀ n j, c'.2.2 22 n j = c.2.2 22 n j := fun n j => (hc 22 n j rfl).2.2
  have a2 : ∀ n j, c'.1 6 n j = c.1 6 n j := fun n j => (hc 6 n j rfl).1
  have a3 : ∀ n j, c'.2.1 6 n j = c.2.1 6 n j := fun n j => (hc 6 n j rfl).2.1
  have b5 : ∀ j, m'.1 105 0 j = m.1 105 0 j := fun j => hm 105 0 j rfl
  have b6 : ∀ j, m'.1 106 0 j = m.1 106 0 j := fun j => hm 106 0 j rfl
  have b7 : ∀ j, m'.1 107 0 j = m.1 107 0 j := fun j => hm 107 0 j rfl
  have b8 : ∀ j, m'.1 108 0 j = m.1 108 0 j := fun j => hm 108 0 j rfl
  have b9 : ∀ j, m'.1 109 0 j = m.1 109 0 j := fun j => hm 109 0 j rfl
  have b10 : ∀ j, m'.1 110 0 j = m.1 110 0 j := fun j => hm 110 0 j rfl
  have b11 : ∀ j, m'.1 111 0 j = m.1 111 0 j := fun j => hm 111 0 j rfl
  unfold r_p at H ⊢
  simp only [a0, a1, a2, a3, b5, b6, b7, b8, b9, b10, b11]
  exact H
theorem r_f_cg (hc : ∀ k n j, rpC k j = true → c'.1 k n j = c.1 k n j ∧ c'.2.1 k n j = c.2.1 k n j ∧ c'.2.2 k n j = c.2.2 k n j) (hm : ∀ k n j, rpM k = true → m'.1 k n j = m.1 k n j) (H : r_f c m) : r_f c' m' := by
  have a2 : ∀ n j, c'.1 28 n j = c.1 28 n j := fun n j => (hc 28 n j rfl).1
  have a3 : ∀ n j, c'.2.1 29 n j = c.2.1 29 n j := fun n j => (hc 29 n j rfl).2.1
  have b7 : ∀ j, m'.1 127 0 j = m.1 127 0 j := fun j => hm 127 0 j rfl
  have b8 : ∀ j, m'.1 128 0 j = m.1 128 0 j := fun j => hm 128 0 j rfl
  have b9 : ∀ j, m'.1 129 0 j = m.1 129 0 j := fun j => hm 129 0 j rfl
  unfold r_f at H ⊢
  simp only [a2, a3, b7, b8, b9]
  exact H
theorem q_dead (H : r_q f B c m) {id : Int} (k0 : ∀ n j, c'.1 0 n j = if n = id ∧ j = 9 then -1 else c.1 0 n j) (k0r : ∀ n j, c'.2.2 0 n j = c.2.2 0 n j) (k2 : ∀ n j, c'.1 2 n j = c.1 2 n j) (k25 : ∀ n j, c'.2.2 25 n j = c.2.2 25 n j) (s4 : c.1 0 id 9 ≠ 4) (km : ∀ k j, 149 ≤ k → k ≤ 153 → m'.1 k 0 j = m.1 k 0 j) : r_q f B c' m' := by
  have b9 : ∀ j, m'.1 149 0 j = m.1 149 0 j := fun j => km 149 j (by omega) (by omega)
  have b0 : ∀ j, m'.1 150 0 j = m.1 150 0 j := fun j => km 150 j (by omega) (by omega)
  have b1 : ∀ j, m'.1 151 0 j = m.1 151 0 j := fun j => km 151 j (by omega) (by omega)
  have b2 : ∀ j, m'.1 152 0 j = m.1 152 0 j := fun j => km 152 j (by omega) (by omega)
  have b3 : ∀ j, m'.1 153 0 j = m.1 153 0 j := fun j => km 153 j (by omega) (by omega)
  obtain ⟨h1, h2, h3, h4, h5, h6⟩ := H
  unfold r_q lv
  simp only [k0, k0r, k2, k25, b9, b0, b1, b2, b3]
  refine ⟨h1, h2, ?_, ?_, ?_, h6⟩
  · intro q q0 q1
    refine ⟨(h3 q q0 q1).1, fun i i0 i1 => ?_⟩
    obtain ⟨x, x1, x2, x3, x4⟩ := (h3 q q0 q1).2 i i0 i1
    have : x ≠ id := fun z => s4 (z ▸ x2)
    exact ⟨x, by simp [this]; exact x1, by simp [this]; exact x2, x3, x4⟩
  · simpa using h4
  · intro x q x1 x2 x3
    have hx : x ≠ id := fun z => by simp [z] at x2
    simp [hx] at x1 x2 ⊢
    exact h5 x q x1 x2 x3
theorem q_leave (hf : f_ok f) (H : r_q f B c m) {id q p : Int} (hv : lv c id) (s4 : c.1 0 id 9 = 4) (gp : c.2.2 0 id 5 = some q) (q0 : 0 ≤ q) (q1 : q < 6) (p0 : 0 ≤ p) (p1 : p < m.1 153 0 q) (hp : m.1 152 0 (80 * q + p) = f id)
    (k0 : ∀ n j, c'.1 0 n j = if n = id ∧ j = 9 then -1 else c.1 0 n j) (k0r : ∀ n j, c'.2.2 0 n j = c.2.2 0 n j) (k2 : ∀ n j, c'.1 2 n j = if n = q ∧ j = 3 then c.1 2 q 3 - 1 else c.1 2 n j) (k25 : ∀ n j, c'.2.2 25 n j = c.2.2 25 n j) (km : ∀ k j, 149 ≤ k → k ≤ 151 → m'.1 k 0 j = m.1 k 0 j)
    (km2 : ∀ j, m'.1 152 0 j = if 80 * q + p ≤ j ∧ j < 80 * q + m.1 153 0 q - 1 then m.1 152 0 (j + 1) else m.1 152 0 j) (km3 : ∀ j, m'.1 153 0 j = if j = q then m.1 153 0 q - 1 else m.1 153 0 j) : r_q f B c' m' := by
  have hM := r_q_many hf H q0 q1
  have b9 : ∀ j, m'.1 149 0 j = m.1 149 0 j := fun j => km 149 j (by omega) (by omega)
  have b0 : ∀ j, m'.1 150 0 j = m.1 150 0 j := fun j => km 150 j (by omega) (by omega)
  have b1 : ∀ j, m'.1 151 0 j = m.1 151 0 j := fun j => km 151 j (by omega) (by omega)
  have hMx := fun q' a b => r_q_many hf H (q := q') a b
  obtain ⟨h1, h2, h3, h4, h5, h6⟩ := H
  -- where an entry of the new queue stood
  have nq : ∀ q' i, 0 ≤ q' → q' < 6 → 0 ≤ i → i < m'.1 153 0 q' → m'.1 152 0 (80 * q' + i) = m.1 152 0 (80 * q' + (if q' = q ∧ p ≤ i then i + 1 else i)) ∧ (if q' = q ∧ p ≤ i then i + 1 else i) < m.1 153 0 q' ∧ (q' = q → (if q' = q ∧ p ≤ i then i + 1 else i) ≠ p) := fun q' i a b d e => by
    have := hMx q' a b
    rw [km3] at e
    rw [km2]
    by_cases z : q' = q
    · subst z
      rw [if_pos rfl] at e
      by_cases w : p ≤ i
      · rw [if_pos (by omega), if_pos ⟨rfl, w⟩]
        exact ⟨by rw [Int.add_assoc], by omega, fun _ => by omega⟩
      · rw [if_neg (by omega), if_neg (fun x => w x.2)]
        exact ⟨rfl, by omega, fun _ => by omega⟩
    · rw [if_neg z] at e
      rw [if_neg (by omega), if_neg (fun x => z x.1)]
      exact ⟨rfl, e, fun x => absurd x z⟩
  have hd : ∀ i, 0 ≤ i → i < m.1 153 0 q → i ≠ p → m.1 152 0 (80 * q + i) ≠ f id := fun i a b d z => by
    rcases Int.lt_or_gt_of_ne d with w | w
    · have := h4 q i p id id q0 q1 a w p1 z hp; omega
    · have := h4 q p i id id q0 q1 p0 w b hp z; omega
  unfold r_q lv
  refine ⟨?_, ?_, ?_, ?_, ?_, ?_⟩
  · intro x
    obtain ⟨a, b, d⟩ := h1 x
    rw [b0, b1, km3, k2, k2, k2]
    have d2 := (h1 q).2.2
    grind
  · simp only [b0, b9, k25]
    exact h2
  · intro q' a b
    constructor
    · rw [km3]; have := (h3 q' a b).1; grind
    · intro i i0 i1
      obtain ⟨n1, n2, n3⟩ := nq q' i a b i0 i1
      obtain ⟨x, x1, x2, x3, x4⟩ := (h3 q' a b).2 _ (by split <;> omega) n2
      have hx : x ≠ id := fun z => by
        subst z
        have hq : q' = q := by rw [gp] at x3; cases x3; rfl
        subst hq
        exact hd _ (by split <;> omega) n2 (n3 rfl) x4
      refine ⟨x, ?_, ?_, ?_, ?_⟩
      · simp [k0, hx]; exact x1
      · simp [k0, hx]; exact x2
      · rw [k0r]; exact x3
      · rw [n1]; exact x4
  · intro q' i j a b a0 a1 i0 ij i1 e1 e2
    obtain ⟨n1, n2, n3⟩ := nq q' i a0 a1 i0 (by omega)
    obtain ⟨o1, o2, o3⟩ := nq q' j a0 a1 (by omega) i1
    rw [k0, k0, if_neg (by omega), if_neg (by omega)]
    exact h4 q' (if q' = q ∧ p ≤ i then i + 1 else i) (if q' = q ∧ p ≤ j then j + 1 else j) a b a0 a1 (by split <;> omega) (by split <;> split <;> omega) o2 (by rw [← n1]; exact e1) (by rw [← o1]; exact e2)
  · intro x q' x1 x2 x3
    have hx : x ≠ id := fun z => by simp [k0, z] at x2
    simp [k0, hx] at x1 x2
    rw [k0r] at x3
    obtain ⟨y1, y2, y3, y4, i, y5, y6, y7⟩ := h5 x q' x1 x2 x3
    refine ⟨y1, y2, ?_, ?_, ?_⟩
    · rw [k2, k0, if_neg (by omega), if_neg (by omega)]; exact y3
    · rw [k2, k0, if_neg (by omega), if_neg (by omega)]; exact y4
    · by_cases z : q' = q
      · subst z
        have ip : i ≠ p := fun w => by
          rw [w, hp] at y7
          exact hx (hf.1 _ _ y7).symm
        by_cases w : i < p
        · refine ⟨i, y5, ?_, ?_⟩
          · rw [km3, if_pos rfl]; omega
          · rw [km2, if_neg (by omega)]; exact y7
        · refine ⟨i - 1, by omega, ?_, ?_⟩
          · rw [km3, if_pos rfl]; omega
          · rw [km2, if_pos (by omega), show 80 * q' + (i - 1) + 1 = 80 * q' + i by omega]; exact y7
      · refine ⟨i, y5, ?_, ?_⟩
        · rw [km3, if_neg z]; exact y6
        · have := hMx q' y1 y2
          rw [km2, if_neg (by omega)]; exact y7
  · intro x a b
    have := h6 x a b
    rw [k2, k2, b1]
    grind
theorem rr_dead (hf : f_ok f) (hr : r_r c m) {id : Int} (hv : lv c id) (hs : m.1 133 0 (f id) = c.1 0 id 9) (k3 : ∀ j, m'.1 133 0 j = if j = f id then -1 else m.1 133 0 j) (k5 : ∀ j, m'.1 135 0 j = m.1 135 0 j) (k7 : ∀ j, m'.1 137 0 j = m.1 137 0 j)
    (kr : ∀ e r, e = 0 ∨ e = 1 → r = 0 ∨ r = 1 → c'.1 23 e r = c.1 23 e r - (if c.1 0 id 9 = 3 ∧ m.1 135 0 (f id) = e ∧ m.1 137 0 (f id) = 200 + r then 1 else 0)) (kv : c'.1 11 0 13 = c.1 11 0 13 - 1) : r_r c' m' := by
  have hfr := hf.2.2.1 id hv.1 (by have := hv.2.1; omega)
  refine ⟨?_, ?_, fun e r he hr' => ?_⟩
  · intro e r he hr'
    have key : rc m' e r = rc m e r - (if decide (m.1 133 0 (f id) = 3 ∧ m.1 135 0 (f id) = e ∧ m.1 137 0 (f id) = 200 + r) then 1 else 0) + (if decide (m'.1 133 0 (f id) = 3 ∧ m'.1 135 0 (f id) = e ∧ m'.1 137 0 (f id) = 200 + r) then 1 else 0) := cn_up (p := fun s => decide (m.1 133 0 s = 3 ∧ m.1 135 0 s = e ∧ m.1 137 0 s = 200 + r)) (p' := fun s => decide (m'.1 133 0 s = 3 ∧ m'.1 135 0 s = e ∧ m'.1 137 0 s = 200 + r)) hfr.1 (by omega) (fun i a b d => by simp only [k3, k5, k7, if_neg d])
    rw [kr e r he hr', hr.1 e r he hr', key, k3, if_pos rfl, hs]
    simp
  · have key : rv m' = rv m - (if decide (m.1 133 0 (f id) ≠ -1) then 1 else 0) + (if decide (m'.1 133 0 (f id) ≠ -1) then 1 else 0) := cn_up (p := fun s => decide (m.1 133 0 s ≠ -1)) (p' := fun s => decide (m'.1 133 0 s ≠ -1)) hfr.1 (by omega) (fun i a b d => by simp only [k3, if_neg d])
    have := hv.2.2
    rw [kv, hr.2.1, key, k3, if_pos rfl, hs]
    simp [this]
  · have := hr.2.2 e r he hr'
    rw [kr e r he hr']
    split <;> omega
theorem a_dead {HH : HT} (H : r_a f B HH c m) {id : Int} (k0 : ∀ n, c'.1 0 n 9 = if n = id then -1 else c.1 0 n 9) (k40 : ∀ j, c'.2.2 40 0 j = c.2.2 40 0 j) (k11 : c'.1 11 0 11 = c.1 11 0 11) (k12 : c'.1 11 0 12 = c.1 11 0 12) (m1 : ∀ j, m'.1 134 0 j = m.1 134 0 j) (m2 : m'.1 12 0 32 = m.1 12 0 32) : r_a f B HH c' m' := by
  obtain ⟨h1, h2, h3, h4, h5, h6, h7, h8, h9⟩ := H
  unfold r_a lv
  simp only [k0, k40, k11, k12, m1, m2]
  refine ⟨h1, h2, h3, ?_, ?_, ?_, ?_, h8, ?_⟩
  · intro i x a b d; have := h4 i x a b d; grind
  · intro x hx
    exact h5 x (by unfold lv; grind)
  · intro i j a b i0 ij jh e1 e2 la lb
    exact h6 i j a b i0 ij jh e1 e2 (by unfold lv; grind) (by unfold lv; grind)
  · intro a la
    exact h7 a (by unfold lv; grind)
  · intro a la
    exact h9 a (by unfold lv; grind)
end RO
