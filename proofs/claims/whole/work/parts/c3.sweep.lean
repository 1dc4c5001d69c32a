/-! ===== the dead are swept out ===== -/
def swp (f : Int → Int) (c m : JM) (A : Int → Option Int) (l1 l2 : Int) : Prop :=
  (∀ i, 0 ≤ i → i < 72 → ∃ id, A i = some id ∧ 0 ≤ id ∧ id < 72) ∧
  (∀ i j, 0 ≤ i → i < 72 → 0 ≤ j → j < 72 → A i = A j → i = j) ∧
  (∀ i id, 0 ≤ i → i < l1 → A i = some id → c.1 0 id 9 ≠ -1) ∧
  (∀ i id, l1 ≤ i → i < l2 → A i = some id → c.1 0 id 9 = -1) ∧
  (∀ i id, c.1 11 0 11 ≤ i → i < 72 → A i = some id → c.1 0 id 9 = -1) ∧
  (∀ id, lv c id → ∃ i, ((0 ≤ i ∧ i < l1) ∨ (l2 ≤ i ∧ i < c.1 11 0 11)) ∧ A i = some id) ∧
  (∀ i j a b, 0 ≤ i → i < j → (i < l1 ∨ l2 ≤ i) → (j < l1 ∨ l2 ≤ j) → j < c.1 11 0 11 → A i = some a → A j = some b → lv c a → lv c b → m.1 134 0 (f a) < m.1 134 0 (f b))
def sg (l1 l2 x : Int) : Int := if x = l1 then l2 else if x = l2 then l1 else x
theorem sg_inj {l1 l2 x y : Int} (h : sg l1 l2 x = sg l1 l2 y) : x = y := by
  unfold sg at h
  split at h <;> split at h <;> (try split at h) <;> (try split at h) <;> omega
theorem sg_r {l1 l2 x : Int} (h1 : 0 ≤ l1 ∧ l1 < 72) (h2 : 0 ≤ l2 ∧ l2 < 72) (hx : 0 ≤ x ∧ x < 72) : 0 ≤ sg l1 l2 x ∧ sg l1 l2 x < 72 := by
  unfold sg
  split
  · omega
  · split <;> omega
theorem sg_lo {l1 l2 x : Int} (h : l1 ≤ l2) (hx : x < l1 ∨ l2 < x) : sg l1 l2 x = x := by
  unfold sg
  rw [if_neg (by omega), if_neg (by omega)]
theorem sg_l1 (l1 l2 : Int) : sg l1 l2 l1 = l2 := if_pos rfl
theorem swp_dead {f : Int → Int} {c m : JM} {A : Int → Option Int} {l1 l2 a : Int} (h : 0 ≤ l1 ∧ l1 ≤ l2) (ha : A l2 = some a) (hd : c.1 0 a 9 = -1) (S : swp f c m A l1 l2) : swp f c m A l1 (l2 + 1) := by
  obtain ⟨s1, s2, s3, s4, s5, s6, s7⟩ := S
  refine ⟨s1, s2, s3, fun i id x y z => ?_, s5, fun id v => ?_, fun i j a' b' x y z w => s7 i j a' b' x y (by omega) (by omega)⟩
  · by_cases q : i = l2
    · rw [q, ha] at z; rw [← Option.some.inj z]; exact hd
    · exact s4 i id x (by omega) z
  · obtain ⟨i, x, y⟩ := s6 id v
    have : i ≠ l2 := fun q => by rw [q, ha] at y; rw [← Option.some.inj y] at v; exact v.2.2 hd
    exact ⟨i, by omega, y⟩
theorem swp_live {f : Int → Int} {c m : JM} {A A' : Int → Option Int} {l1 l2 a : Int} (h : 0 ≤ l1 ∧ l1 ≤ l2) (hn : l2 < c.1 11 0 11) (h72 : c.1 11 0 11 ≤ 72) (ha : A l2 = some a) (hd : c.1 0 a 9 ≠ -1) (hA : ∀ x, A' x = A (sg l1 l2 x)) (S : swp f c m A l1 l2) : swp f c m A' (l1 + 1) (l2 + 1) := by
  obtain ⟨s1, s2, s3, s4, s5, s6, s7⟩ := S
  have r1 : 0 ≤ l1 ∧ l1 < 72 := by omega
  have r2 : 0 ≤ l2 ∧ l2 < 72 := by omega
  refine ⟨fun i x y => ?_, fun i j x y x' y' z => ?_, fun i id x y z => ?_, fun i id x y z => ?_, fun i id x y z => ?_, fun id v => ?_, fun i j a' b' x y z w u p q => ?_⟩
  · rw [hA]; have := sg_r r1 r2 ⟨x, y⟩; exact s1 _ this.1 this.2
  · rw [hA, hA] at z
    have p := sg_r r1 r2 ⟨x, y⟩
    have p' := sg_r r1 r2 ⟨x', y'⟩
    exact sg_inj (s2 _ _ p.1 p.2 p'.1 p'.2 z)
  · rw [hA] at z
    by_cases q : i = l1
    · rw [q, sg_l1, ha] at z; rw [← Option.some.inj z]; exact hd
    · rw [sg_lo h.2 (Or.inl (by omega))] at z; exact s3 i id x (by omega) z
  · rw [hA] at z
    by_cases q : i = l2
    · have e : sg l1 l2 i = l1 := by unfold sg; rw [if_neg (by omega), if_pos q]
      rw [e] at z; exact s4 l1 id (by omega) (by omega) z
    · have e : sg l1 l2 i = i := by unfold sg; rw [if_neg (by omega), if_neg q]
      rw [e] at z; exact s4 i id (by omega) (by omega) z
  · rw [hA, sg_lo h.2 (Or.inr (by omega))] at z; exact s5 i id x y z
  · obtain ⟨i, x, y⟩ := s6 id v
    by_cases q : i = l2
    · exact ⟨l1, by omega, by rw [hA, sg_l1, ← q]; exact y⟩
    · have q' : i < l1 ∨ l2 < i := by omega
      exact ⟨i, by omega, by rw [hA, sg_lo h.2 q']; exact y⟩
  · have key : ∀ x, (x < l1 + 1 ∨ l2 + 1 ≤ x) → sg l1 l2 x = if x = l1 then l2 else x := fun x hx => by
      by_cases e : x = l1
      · rw [e, sg_l1, if_pos rfl]
      · rw [if_neg e, sg_lo h.2 (by omega)]
    rw [hA, key i z] at p
    rw [hA, key j w] at q
    refine s7 _ _ a' b' ?_ ?_ ?_ ?_ ?_ p q
    · split <;> omega
    · split <;> split <;> omega
    · split <;> omega
    · split <;> omega
    · split <;> omega
def s40 (c c1 : JM) : Prop := c1.1 = c.1 ∧ c1.2.1 = c.2.1 ∧ ∀ k n j, k ≠ 40 ∨ n ≠ 0 → c1.2.2 k n j = c.2.2 k n j
theorem f_sw {f : Int → Int} {c m : JM} (h72 : c.1 11 0 11 ≤ 72) : ∀ (d : Nat) (fu : Nat) (l1 l2 : Int) (c1 : JM), s40 c c1 → swp f c m (fun x => c1.2.2 40 0 x) l1 l2 → 0 ≤ l1 → l1 ≤ l2 → l2 + d = c.1 11 0 11 → d < fu → ∃ c2 L, F11_sweepCalls_16 fu l1 l2 c1 = some (sI c2 11 0 11 L) ∧ s40 c c2 ∧ swp f c m (fun x => c2.2.2 40 0 x) L (c.1 11 0 11) ∧ 0 ≤ L ∧ L ≤ c.1 11 0 11
  | _, 0, _, _, _, _, _, _, _, _, h => by omega
  | 0, fu + 1, l1, l2, c1, k1, k2, h0, h1, h2, h3 => by
    refine ⟨c1, l1, ?_, k1, by rw [show c.1 11 0 11 = l2 by omega]; exact k2, h0, by omega⟩
    show F11_sweepCalls_16b (F11_sweepCalls_16 fu) l1 l2 c1 = _
    unfold F11_sweepCalls_16b
    rw [if_pos (by rw [k1.1]; omega), lt_d]
  | d + 1, fu + 1, l1, l2, c1, k1, k2, h0, h1, h2, h3 => by
    have r1 : 0 ≤ l1 ∧ l1 < 72 := by omega
    have r2 : 0 ≤ l2 ∧ l2 < 72 := by omega
    obtain ⟨a, ea, a0, a1⟩ := k2.1 l2 r2.1 r2.2
    have ea' : c1.2.2 40 0 l2 = some a := ea
    have b : F11_sweepCalls_16 (fu + 1) l1 l2 c1 = if c.1 0 a 9 = (-1) then F11_sweepCalls_16 fu l1 (l2 + 1) c1 else F11_sweepCalls_16 fu (l1 + 1) (l2 + 1) (sR (sR c1 40 0 l2 (c1.2.2 40 0 l1)) 40 0 l1 (some a)) := by
      show F11_sweepCalls_16b (F11_sweepCalls_16 fu) l1 l2 c1 = _
      unfold F11_sweepCalls_16b F11_sweepCalls_61
      rw [if_neg (by rw [k1.1]; omega), g_t r2, ea', Option.bind_some, k1.1, w32_1 r2.1 (by omega), g_t r1, g_t r2, lt_d, g_t r1, lt_d, w32_1 r1.1 (by omega)]
    by_cases q : c.1 0 a 9 = -1
    · rw [if_pos q] at b
      obtain ⟨c2, L, e⟩ := f_sw (f := f) (m := m) h72 d fu l1 (l2 + 1) c1 k1 (swp_dead ⟨h0, h1⟩ ea q k2) h0 (by omega) (by omega) (by omega)
      exact ⟨c2, L, by rw [b]; exact e⟩
    · rw [if_neg q] at b
      have k1' : s40 c (sR (sR c1 40 0 l2 (c1.2.2 40 0 l1)) 40 0 l1 (some a)) := ⟨k1.1, k1.2.1, fun k n j z => by rw [rR_R, rR_R, if_neg (by omega), if_neg (by omega)]; exact k1.2.2 k n j z⟩
      have k2' := swp_live (A' := fun x => (sR (sR c1 40 0 l2 (c1.2.2 40 0 l1)) 40 0 l1 (some a)).2.2 40 0 x) ⟨h0, h1⟩ (by omega) h72 ea q (fun x => by
        show (sR (sR c1 40 0 l2 (c1.2.2 40 0 l1)) 40 0 l1 (some a)).2.2 40 0 x = c1.2.2 40 0 (sg l1 l2 x)
        rw [rR_R, rR_R]
        unfold sg
        by_cases x1 : x = l1
        · rw [if_pos ⟨rfl, rfl, x1⟩, if_pos x1]; exact ea'.symm
        · rw [if_neg (fun z => x1 z.2.2), if_neg x1]
          by_cases x2 : x = l2
          · rw [if_pos ⟨rfl, rfl, x2⟩, if_pos x2]
          · rw [if_neg (fun z => x2 z.2.2), if_neg x2]) k2
      obtain ⟨c2, L, e⟩ := f_sw (f := f) (m := m) h72 d fu (l1 + 1) (l2 + 1) _ k1' k2' (by omega) (by omega) (by omega) (by omega)
      exact ⟨c2, L, by rw [b]; exact e⟩
