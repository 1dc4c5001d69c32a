/-! ===== at the start the law's world stands ===== -/
theorem ly_far {k : Nat} {n j : Int} (hk : 41 ≤ k) : j_ly k n j = none := by
  unfold j_ly
  split <;> first | rfl | omega
section IK
variable {N r : Int} {h0 c m : JM}
theorem pc_gh {k : Nat} {n : Int} (hN : N ≤ 16) (k1 : k < 1000) (q : PC N (k + 1000) n) : ((k = 1 ∨ k = 5 ∨ k = 20 ∨ k = 21 ∨ k = 22 ∨ k = 23 ∨ k = 24 ∨ k = 31 ∨ k = 32 ∨ k = 33 ∨ k = 7 ∨ k = 34 ∨ k = 35) ∧ (n = 0 ∨ n = 1)) ∨ ((k = 2 ∨ k = 25) ∧ 0 ≤ n ∧ n < 6) ∨ ((k = 3 ∨ k = 10 ∨ k = 11 ∨ k = 26 ∨ k = 27 ∨ k = 36 ∨ k = 37 ∨ k = 38 ∨ k = 39 ∨ k = 40) ∧ n = 0) ∨ ((k = 4 ∨ k = 28 ∨ k = 29 ∨ k = 30) ∧ 0 ≤ n ∧ n < 16) ∨ (k = 8 ∧ ((0 ≤ n ∧ n < N) ∨ (16 ≤ n ∧ n < 16 + N))) ∨ k = 9 ∨ k = 0 := by
  have t1 : ∀ e, e = 0 ∨ e = 1 → P1 e N (k + 1000) n → ((k = 5 ∨ k = 20 ∨ k = 21 ∨ k = 22 ∨ k = 23 ∨ k = 24 ∨ k = 31 ∨ k = 32 ∨ k = 33) ∧ n = e) ∨ ((k = 2 ∨ k = 25) ∧ 0 ≤ n ∧ n < 6) ∨ (k = 8 ∧ 16 * e ≤ n ∧ n < 16 * e + N) ∨ k = 9 := fun e he p => by
    rcases p with p | p | p | p
    · unfold P5 at p
      have p2 : ((k = 5 ∨ k = 31 ∨ k = 32 ∨ k = 33) ∧ n = e) ∨ k = 9 := by omega
      rcases p2 with ⟨p2, p3⟩ | p2
      · exact Or.inl ⟨by omega, p3⟩
      · exact Or.inr (Or.inr (Or.inr p2))
    · unfold P61 at p
      have p2 : k = 8 ∧ 16 * e ≤ n ∧ n < 16 * e + N := by omega
      exact Or.inr (Or.inr (Or.inl p2))
    · unfold P88 at p
      have p2 : (k = 2 ∨ k = 25) ∧ 0 ≤ n ∧ n < 6 := by omega
      exact Or.inr (Or.inl p2)
    · exact Or.inl ⟨by omega, p.2⟩
  have t2 : ∀ e, e = 0 ∨ e = 1 → PX e N (k + 1000) n → ((k = 1 ∨ k = 5 ∨ k = 20 ∨ k = 21 ∨ k = 22 ∨ k = 23 ∨ k = 24 ∨ k = 31 ∨ k = 32 ∨ k = 33 ∨ k = 7 ∨ k = 34 ∨ k = 35) ∧ (n = 0 ∨ n = 1)) ∨ ((k = 2 ∨ k = 25) ∧ 0 ≤ n ∧ n < 6) ∨ (k = 8 ∧ 16 * e ≤ n ∧ n < 16 * e + N) ∨ k = 9 := fun e he p => by
    rcases p with p | p | p
    · rcases t1 e he p with ⟨p1, p2⟩ | p1 | p1 | p1
      · exact Or.inl ⟨by omega, by omega⟩
      · exact Or.inr (Or.inl p1)
      · exact Or.inr (Or.inr (Or.inl p1))
      · exact Or.inr (Or.inr (Or.inr p1))
    · exact Or.inl ⟨by omega, by omega⟩
    · omega
  rcases pc_k q with (q | q) | (q | q) | q | q
  · unfold PM at q
    rcases q with ⟨q1, q2⟩ | ⟨q1, q2⟩
    · exact Or.inr (Or.inr (Or.inl ⟨by omega, q2⟩))
    · exact Or.inl ⟨by omega, q2⟩
  · unfold P3 at q
    exact Or.inr (Or.inr (Or.inl ⟨by omega, q.2⟩))
  · rcases t2 0 (Or.inl rfl) q with p1 | p1 | p1 | p1
    · exact Or.inl p1
    · exact Or.inr (Or.inl p1)
    · exact Or.inr (Or.inr (Or.inr (Or.inr (Or.inl ⟨p1.1, Or.inl ⟨by omega, by omega⟩⟩))))
    · exact Or.inr (Or.inr (Or.inr (Or.inr (Or.inr (Or.inl p1)))))
  · rcases t2 1 (Or.inr rfl) q with p1 | p1 | p1 | p1
    · exact Or.inl p1
    · exact Or.inr (Or.inl p1)
    · exact Or.inr (Or.inr (Or.inr (Or.inr (Or.inl ⟨p1.1, Or.inr ⟨by omega, by omega⟩⟩))))
    · exact Or.inr (Or.inr (Or.inr (Or.inr (Or.inr (Or.inl p1)))))
  · unfold P231 at q
    have p2 : (k = 4 ∨ k = 28 ∨ k = 29 ∨ k = 30) ∧ 0 ≤ n ∧ n < 16 := by omega
    exact Or.inr (Or.inr (Or.inr (Or.inl p2)))
  · unfold P259 at q
    have p2 : k = 0 := by omega
    exact Or.inr (Or.inr (Or.inr (Or.inr (Or.inr (Or.inr p2)))))
theorem w_pres (e0 : em h0) (Fc : fr (PC N) h0 c) (Fm : fr PR c m) {k : Nat} {n : Int} (k99 : k ≠ 99) (g : m.1 (k + 1000) n 0 = 1) : PR (k + 1000) n ∨ PC N (k + 1000) n := by
  by_cases p : PR (k + 1000) n
  · exact Or.inl p
  · by_cases q : PC N (k + 1000) n
    · exact Or.inr q
    · rw [(Fm _ _ p 0).1, (Fc _ _ q 0).1, e0.2 (k + 1000) n 0 (by omega) (by omega)] at g
      exact absurd g (by decide)
theorem w_A (hN : 1 ≤ N ∧ N ≤ 16) (e0 : em h0) (Fc : fr (PC N) h0 c) (C : CF N r c) (Fm : fr PR c m) (M : MA m) : ∀ k n, k < 1000 → m.1 (k + 1000) n 0 = 1 → 13 ≤ k → j_ln m k n = m.1 (k + 1000) n 1 := fun k n k1 g k13 => by
  by_cases k99 : k = 99
  · subst k99; rfl
  · have cg : ∀ k n j, 1000 ≤ k → k < 1100 → k ≠ 1012 → m.1 k n j = c.1 k n j := fun k n j k1 k2 k3 => (Fm k n (fun p => by have := pr_k p; omega) j).1
    obtain ⟨⟨_, _, ⟨l38, l39, l40, l36, l37, l26, l27⟩, _, lt, _⟩, X0, X1, _, _, XL, _⟩ := C
    have XE : ∀ e, e = 0 ∨ e = 1 → E1 e N c := fun e he => by rcases he with rfl | rfl; exact X0; exact X1
    rcases w_pres e0 Fc Fm k99 g with p | p
    · rcases p.2 with q | q | ⟨x, hx, q⟩
      · omega
      · omega
      · have t := m_lok.1 x hx
        have kx : k = x.1 := by omega
        rw [kx, ln_ar x hx, p.1]
        have y := (M x hx).2
        rw [t.1] at y
        exact y.symm
    · rcases pc_gh hN.2 k1 p with ⟨hk, hn⟩ | ⟨hk, hn⟩ | ⟨hk, hn⟩ | ⟨hk, hn⟩ | ⟨hk, hn⟩ | hk | hk
      · obtain ⟨_, _, ⟨a0, a1, a2, a3, a4, a5, a6, a7⟩, _⟩ := XE n hn
        obtain ⟨_, _, _, a8, a9⟩ := lt n hn
        rw [cg (k + 1000) n 1 (by omega) (by omega) (by omega)]
        rcases hk with rfl | rfl | rfl | rfl | rfl | rfl | rfl | rfl | rfl | rfl | rfl | rfl | rfl
        · omega
        · omega
        · show m.1 1020 n 1 = _
          exact cg 1020 n 1 (by decide) (by decide) (by decide)
        · exact a1.symm
        · exact a2.symm
        · exact a3.symm
        · exact a4.symm
        · exact a5.symm
        · exact a6.symm
        · exact a7.symm
        · omega
        · exact a8.symm
        · exact a9.symm
      · rw [cg (k + 1000) n 1 (by omega) (by omega) (by omega)]
        have k25 : k = 25 := by omega
        subst k25
        have z : c.1 1025 n 1 = 8 := by
          by_cases x : n < 3
          · have z := (X0.2.2.2.2.2.2.2.2.2 n hn.1 x).2.2.2.2.2.2.1
            rw [show 3 * 0 + n = n by omega] at z; exact z
          · have z := (X1.2.2.2.2.2.2.2.2.2 (n - 3) (by omega) (by omega)).2.2.2.2.2.2.1
            rw [show 3 * 1 + (n - 3) = n by omega] at z; exact z
        exact z.symm
      · subst hn
        rw [cg (k + 1000) 0 1 (by omega) (by omega) (by omega)]
        rcases hk with rfl | rfl | rfl | rfl | rfl | rfl | rfl | rfl | rfl | rfl
        · omega
        · omega
        · omega
        · exact l26.symm
        · exact l27.symm
        · exact l36.symm
        · exact l37.symm
        · exact l38.symm
        · exact l39.symm
        · exact l40.symm
      · rw [cg (k + 1000) n 1 (by omega) (by omega) (by omega)]
        obtain ⟨_, _, _, _, _, b1, b2, b3, _⟩ := XL n hn.1 hn.2
        rcases hk with rfl | rfl | rfl | rfl
        · omega
        · exact b1.symm
        · exact b2.symm
        · exact b3.symm
      · omega
      · omega
      · omega
theorem w_B (hN : 1 ≤ N ∧ N ≤ 16) (e0 : em h0) (Fc : fr (PC N) h0 c) (C : CF N r c) (Fm : fr PR c m) (M : MA m) : ∀ k n (j : Nat) r, k < 1000 → m.1 (k + 1000) n 0 = 1 → 10 ≤ j_code k j → (k < 13 → j < j_N k) → (13 ≤ k → (j : Int) < m.1 (k + 1000) n 1) → j_ly k n j = some r → m.2.2 k n j = r := fun k n j r k1 g hc hk hl hy => by
  by_cases k99 : k = 99
  · subst k99; exact absurd hc (by show ¬ 10 ≤ (0 : Nat); decide)
  · have cg : ∀ k n j, 1000 ≤ k → k < 1100 → k ≠ 1012 → m.1 k n j = c.1 k n j := fun k n j k1 k2 k3 => (Fm k n (fun p => by have := pr_k p; omega) j).1
    have cr : ∀ k n j, k < 99 → k ≠ 12 → m.2.2 k n j = c.2.2 k n j := fun k n j k1 k2 => (Fm k n (fun p => by have := pr_k p; omega) j).2.2
    obtain ⟨⟨_, ⟨r2, r3, r4, r5, r6, r7, r8⟩, ⟨l38, l39, l40, _⟩, ⟨s1, s2, s3, s4⟩, lt, _⟩, X0, X1, ⟨t38a, t38b⟩, X8, XL, _⟩ := C
    have XE : ∀ e, e = 0 ∨ e = 1 → E1 e N c := fun e he => by rcases he with rfl | rfl; exact X0; exact X1
    rcases w_pres e0 Fc Fm k99 g with p | p
    · rcases p.2 with q | q | ⟨x, hx, q⟩
      · omega
      · have k12 : k = 12 := by omega
        subst k12
        have n0 := p.1
        subst n0
        have hj : j < 92 := hk (by decide)
        have t := f12_ar j (List.mem_range.2 hj) hc
        obtain ⟨x, hx, ex⟩ := List.any_eq_true.1 t
        have ex2 : x.2.2.2 = (j : Int) := by simpa using ex
        cases hy
        rw [← ex2]; exact (M x hx).1
      · have t := m_lok.1 x hx
        rw [ly_far (by omega)] at hy; cases hy
    · rcases pc_gh hN.2 k1 p with ⟨hk2, hn⟩ | ⟨hk2, hn⟩ | ⟨hk2, hn⟩ | ⟨hk2, hn⟩ | ⟨hk2, hn⟩ | hk2 | hk2
      · obtain ⟨_, ⟨a1, a2, a3, a5, a6, a7⟩, ⟨l20, l21, _, _, _, _, l32, l33⟩, _, _, ⟨b8, b9, b10⟩, d32, d33, d8, d2⟩ := XE n hn
        obtain ⟨_, u0, u1, _, _⟩ := lt n hn
        rcases hk2 with rfl | rfl | rfl | rfl | rfl | rfl | rfl | rfl | rfl | rfl | rfl | rfl | rfl
        · -- 1
          have hj : j < 8 := hk (by decide)
          have hj2 : j = 0 ∨ j = 1 ∨ j = 2 ∨ j = 3 ∨ j = 4 ∨ j = 5 ∨ j = 6 ∨ j = 7 := by omega
          rcases hj2 with rfl | rfl | rfl | rfl | rfl | rfl | rfl | rfl
          · exact absurd hc (by decide)
          · cases hy; rw [cr 1 n _ (by decide) (by decide)]; exact a1
          · cases hy; rw [cr 1 n _ (by decide) (by decide)]; exact a2
          · cases hy; rw [cr 1 n _ (by decide) (by decide)]; exact a3
          · exact absurd hc (by decide)
          · cases hy; rw [cr 1 n _ (by decide) (by decide)]; exact a5
          · cases hy; rw [cr 1 n _ (by decide) (by decide)]; exact a6
          · cases hy; rw [cr 1 n _ (by decide) (by decide)]; exact a7
        · -- 5
          have hj : j < 11 := hk (by decide)
          have hj2 : j = 0 ∨ j = 1 ∨ j = 2 ∨ j = 3 ∨ j = 4 ∨ j = 5 ∨ j = 6 ∨ j = 7 ∨ j = 8 ∨ j = 9 ∨ j = 10 := by omega
          rcases hj2 with rfl | rfl | rfl | rfl | rfl | rfl | rfl | rfl | rfl | rfl | rfl
          · exact absurd hc (by decide)
          · exact absurd hc (by decide)
          · exact absurd hc (by decide)
          · exact absurd hc (by decide)
          · exact absurd hc (by decide)
          · exact absurd hc (by decide)
          · exact absurd hc (by decide)
          · exact absurd hc (by decide)
          · cases hy; rw [cr 5 n _ (by decide) (by decide)]; exact b8
          · cases hy; rw [cr 5 n _ (by decide) (by decide)]; exact b9
          · cases hy; rw [cr 5 n _ (by decide) (by decide)]; exact b10
        · -- 20
          have hl2 := hl (by decide)
          rw [cg 1020 n 1 (by decide) (by decide) (by decide), l20] at hl2
          cases hy
          rw [cr 20 n _ (by decide) (by decide)]; exact (d8 j (by omega) hl2).2.2.2.2
        · -- 21
          have hl2 := hl (by decide)
          rw [cg 1021 n 1 (by decide) (by decide) (by decide), l21] at hl2
          cases hy
          rw [cr 21 n _ (by decide) (by decide)]; exact (d2 j (by omega) hl2).2.2.2.2.2.2.2
        · cases hy
        · exact absurd hc (by show ¬ 10 ≤ (0 : Nat); decide)
        · exact absurd hc (by show ¬ 10 ≤ (0 : Nat); decide)
        · exact absurd hc (by show ¬ 10 ≤ (3 : Nat); decide)
        · -- 32
          have hl2 := hl (by decide)
          rw [cg 1032 n 1 (by decide) (by decide) (by decide), l32] at hl2
          cases hy
          rw [cr 32 n _ (by decide) (by decide)]; exact d32 j (by omega) hl2
        · -- 33
          have hl2 := hl (by decide)
          rw [cg 1033 n 1 (by decide) (by decide) (by decide), l33] at hl2
          cases hy
          rw [cr 33 n _ (by decide) (by decide)]; exact (d33 j (by omega) hl2).1
        · -- 7
          have hj : j < 4 := hk (by decide)
          have hj2 : j = 0 ∨ j = 1 ∨ j = 2 ∨ j = 3 := by omega
          rcases hj2 with rfl | rfl | rfl | rfl
          · cases hy; rw [cr 7 n _ (by decide) (by decide)]; exact u0
          · cases hy; rw [cr 7 n _ (by decide) (by decide)]; exact u1
          · exact absurd hc (by decide)
          · exact absurd hc (by decide)
        · exact absurd hc (by show ¬ 10 ≤ (0 : Nat); decide)
        · exact absurd hc (by show ¬ 10 ≤ (0 : Nat); decide)
      · rcases hk2 with rfl | rfl
        · -- 2
          have z : c.2.2 2 n 0 = some n := by
            by_cases x : n < 3
            · have z := (X0.2.2.2.2.2.2.2.2.2 n hn.1 x).2.2.2.2.2.1
              rw [show 3 * 0 + n = n by omega] at z; exact z
            · have z := (X1.2.2.2.2.2.2.2.2.2 (n - 3) (by omega) (by omega)).2.2.2.2.2.1
              rw [show 3 * 1 + (n - 3) = n by omega] at z; exact z
          have hj : j < 6 := hk (by decide)
          have hj2 : j = 0 ∨ j = 1 ∨ j = 2 ∨ j = 3 ∨ j = 4 ∨ j = 5 := by omega
          rcases hj2 with rfl | rfl | rfl | rfl | rfl | rfl
          · cases hy; rw [cr 2 n _ (by decide) (by decide)]; exact z
          · exact absurd hc (by decide)
          · exact absurd hc (by decide)
          · exact absurd hc (by decide)
          · exact absurd hc (by decide)
          · exact absurd hc (by decide)
        · cases hy
      · subst hn
        rcases hk2 with rfl | rfl | rfl | rfl | rfl | rfl | rfl | rfl | rfl | rfl
        · -- 3
          have hj : j < 3 := hk (by decide)
          have hj2 : j = 0 ∨ j = 1 ∨ j = 2 := by omega
          rcases hj2 with rfl | rfl | rfl
          · cases hy; rw [cr 3 0 _ (by decide) (by decide)]; exact s3
          · cases hy; rw [cr 3 0 _ (by decide) (by decide)]; exact s4
          · exact absurd hc (by decide)
        · -- 10
          have hj : j < 6 := hk (by decide)
          have hj2 : j = 0 ∨ j = 1 ∨ j = 2 ∨ j = 3 ∨ j = 4 ∨ j = 5 := by omega
          rcases hj2 with rfl | rfl | rfl | rfl | rfl | rfl
          · cases hy; rw [cr 10 0 _ (by decide) (by decide)]; exact s1
          · exact absurd hc (by decide)
          · exact absurd hc (by decide)
          · exact absurd hc (by decide)
          · cases hy; rw [cr 10 0 _ (by decide) (by decide)]; exact s2
          · exact absurd hc (by decide)
        · -- 11
          have hj : j < 14 := hk (by decide)
          have hj2 : j = 0 ∨ j = 1 ∨ j = 2 ∨ j = 3 ∨ j = 4 ∨ j = 5 ∨ j = 6 ∨ j = 7 ∨ j = 8 ∨ j = 9 ∨ j = 10 ∨ j = 11 ∨ j = 12 ∨ j = 13 := by omega
          rcases hj2 with rfl | rfl | rfl | rfl | rfl | rfl | rfl | rfl | rfl | rfl | rfl | rfl | rfl | rfl
          · exact absurd hc (by decide)
          · exact absurd hc (by decide)
          · cases hy; rw [cr 11 0 _ (by decide) (by decide)]; exact r2
          · cases hy; rw [cr 11 0 _ (by decide) (by decide)]; exact r3
          · cases hy; rw [cr 11 0 _ (by decide) (by decide)]; exact r4
          · cases hy; rw [cr 11 0 _ (by decide) (by decide)]; exact r5
          · cases hy; rw [cr 11 0 _ (by decide) (by decide)]; exact r6
          · cases hy; rw [cr 11 0 _ (by decide) (by decide)]; exact r7
          · cases hy; rw [cr 11 0 _ (by decide) (by decide)]; exact r8
          · exact absurd hc (by decide)
          · exact absurd hc (by decide)
          · exact absurd hc (by decide)
          · exact absurd hc (by decide)
          · exact absurd hc (by decide)
        · exact absurd hc (by show ¬ 10 ≤ (0 : Nat); decide)
        · exact absurd hc (by show ¬ 10 ≤ (0 : Nat); decide)
        · exact absurd hc (by show ¬ 10 ≤ (2 : Nat); decide)
        · exact absurd hc (by show ¬ 10 ≤ (2 : Nat); decide)
        · -- 38
          have hl2 := hl (by decide)
          rw [cg 1038 0 1 (by decide) (by decide) (by decide), l38] at hl2
          cases hy
          rw [cr 38 0 _ (by decide) (by decide)]
          have hj2 : j = 0 ∨ j = 1 := by omega
          rcases hj2 with rfl | rfl
          · exact t38a
          · exact t38b
        · -- 39
          have hl2 := hl (by decide)
          rw [cg 1039 0 1 (by decide) (by decide) (by decide), l39] at hl2
          cases hy
          rw [cr 39 0 _ (by decide) (by decide)]; exact (XL j (by omega) hl2).2.2.2.2.2.2.2.2
        · cases hy
      · rcases hk2 with rfl | rfl | rfl | rfl
        · -- 4
          have z : ∀ i, c.2.2 4 n i = if i = 1 ∨ i = 2 ∨ i = 3 then some n else none := (XL n hn.1 hn.2).2.1
          have hj : j < 20 := hk (by decide)
          have hj2 : j = 0 ∨ j = 1 ∨ j = 2 ∨ j = 3 ∨ j = 4 ∨ j = 5 ∨ j = 6 ∨ j = 7 ∨ j = 8 ∨ j = 9 ∨ j = 10 ∨ j = 11 ∨ j = 12 ∨ j = 13 ∨ j = 14 ∨ j = 15 ∨ j = 16 ∨ j = 17 ∨ j = 18 ∨ j = 19 := by omega
          rcases hj2 with rfl | rfl | rfl | rfl | rfl | rfl | rfl | rfl | rfl | rfl | rfl | rfl | rfl | rfl | rfl | rfl | rfl | rfl | rfl | rfl
          · exact absurd hc (by decide)
          · cases hy; rw [cr 4 n _ (by decide) (by decide), z]; rfl
          · cases hy; rw [cr 4 n _ (by decide) (by decide), z]; rfl
          · cases hy; rw [cr 4 n _ (by decide) (by decide), z]; rfl
          · exact absurd hc (by decide)
          · exact absurd hc (by decide)
          · exact absurd hc (by decide)
          · exact absurd hc (by decide)
          · exact absurd hc (by decide)
          · exact absurd hc (by decide)
          · exact absurd hc (by decide)
          · cases hy
          · cases hy
          · cases hy
          · exact absurd hc (by decide)
          · exact absurd hc (by decide)
          · exact absurd hc (by decide)
          · exact absurd hc (by decide)
          · exact absurd hc (by decide)
          · exact absurd hc (by decide)
        · exact absurd hc (by show ¬ 10 ≤ (1 : Nat); decide)
        · exact absurd hc (by show ¬ 10 ≤ (3 : Nat); decide)
        · exact absurd hc (by show ¬ 10 ≤ (2 : Nat); decide)
      · -- 8
        subst hk2
        have z : c.2.2 8 n 1 = some (if n < 16 then n + 16 else n - 16) := by
          rcases hn with hn | hn
          · rw [(X8 n hn.1 hn.2).1, if_pos (by omega)]; congr 1; omega
          · have y := (X8 (n - 16) (by omega) (by omega)).2
            rw [show 16 + (n - 16) = n by omega] at y
            rw [y, if_neg (by omega)]
        have hj : j < 6 := hk (by decide)
        have hj2 : j = 0 ∨ j = 1 ∨ j = 2 ∨ j = 3 ∨ j = 4 ∨ j = 5 := by omega
        rcases hj2 with rfl | rfl | rfl | rfl | rfl | rfl
        · exact absurd hc (by decide)
        · cases hy; rw [cr 8 n _ (by decide) (by decide)]; exact z
        · exact absurd hc (by decide)
        · cases hy
        · exact absurd hc (by decide)
        · exact absurd hc (by decide)
      · subst hk2; cases hy
      · subst hk2; cases hy
end IK
