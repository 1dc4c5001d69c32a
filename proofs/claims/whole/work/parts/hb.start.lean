/-! ===== at the start both agree ===== -/
def f_st (x : Int) : Int := if x < 0 then x - 1 else x
theorem f_st_ok : f_ok f_st := by
  unfold f_ok f_st
  refine ⟨fun a b h => by split at h <;> split at h <;> omega, fun a h => by split at h <;> omega, fun a h0 h1 => by rw [if_neg (by omega)]; exact ⟨h0, h1⟩, fun s h0 h1 => ⟨s, h0, h1, by rw [if_neg (by omega)]⟩⟩
theorem cn_0 {p : Int → Bool} : ∀ {n : Nat}, (∀ i : Int, 0 ≤ i → i < n → p i = false) → cn p n = 0
  | 0, _ => rfl
  | n + 1, h => by
    unfold cn
    rw [cn_0 (fun i a b => h i a (by omega)), h (n : Int) (by omega) (by omega)]; rfl
theorem k_R00 {x n : Int} {g : Int → Int} (hx : x = 0) (hn : n = 0) : k_R x n g := ⟨[], ⟨by simp, fun _ q => by cases q⟩, by rw [hx]; rfl, by rw [hn]; rfl, fun j hj => absurd hj (by simp)⟩
section IJ
variable {N : Int}
theorem pc_k {k : Nat} {n : Int} (q : PC N k n) : (PM k n ∨ P3 k n) ∨ (PX 0 N k n ∨ PX 1 N k n) ∨ P231 16 k n ∨ P259 72 k n := by
  rcases q with q | q | q | q | q | q
  · exact Or.inl (Or.inl q)
  · exact Or.inl (Or.inr q)
  · exact Or.inr (Or.inl (Or.inl q))
  · exact Or.inr (Or.inl (Or.inr q))
  · exact Or.inr (Or.inr (Or.inl q))
  · exact Or.inr (Or.inr (Or.inr q))
theorem pc4 {k : Nat} {n : Int} (hk : k = 4 ∨ k = 28 ∨ k = 29 ∨ k = 30) (q : PC N k n) : 0 ≤ n ∧ n < 16 := by
  rcases pc_k q with q | (q | q) | q | q
  · have := pm_k q; omega
  · have := px_k q; omega
  · have := px_k q; omega
  · unfold P231 at q; omega
  · unfold P259 at q; omega
theorem pc6 {n : Int} (q : PC N 1006 n) : False := by
  rcases pc_k q with q | (q | q) | q | q
  · have := pm_k q; omega
  · have := px_k q; omega
  · have := px_k q; omega
  · unfold P231 at q; omega
  · unfold P259 at q; omega
theorem pc2 {n : Int} (hN : N ≤ 16) (q : PC N 2 n) : 0 ≤ n ∧ n < 6 := by
  rcases pc_k q with q | (q | q) | q | q
  · have := pm_k q; omega
  · rcases q with q | q | q
    · have := p1_cases (Or.inl rfl) hN q; omega
    · omega
    · omega
  · rcases q with q | q | q
    · have := p1_cases (Or.inr rfl) hN q; omega
    · omega
    · omega
  · unfold P231 at q; omega
  · unfold P259 at q; omega
theorem pc8 {n : Int} (q : PC N 8 n) : (0 ≤ n ∧ n < N) ∨ (16 ≤ n ∧ n < 16 + N) := by
  rcases pc_k q with q | (q | q) | q | q
  · have := pm_k q; omega
  · rcases q with (q | q | q | q) | q | q
    · unfold P5 at q; omega
    · unfold P61 at q; omega
    · unfold P88 at q; omega
    · omega
    · omega
    · omega
  · rcases q with (q | q | q | q) | q | q
    · unfold P5 at q; omega
    · unfold P61 at q; omega
    · unfold P88 at q; omega
    · omega
    · omega
    · omega
  · unfold P231 at q; omega
  · unfold P259 at q; omega
end IJ
theorem r_start {a b : Int} {h0 c m : JM} (e0 : em h0) (Fc : fr (PC (cN a)) h0 c) (C : CF (cN a) (cR a b) c) (Fm : fr PR c m) (m12 : m.1 12 0 0 = cN a ∧ m.1 12 0 1 = cR a b ∧ ∀ j, 2 ≤ j → m.1 12 0 j = 0) (mm : ∀ k n j, 100 ≤ k → k < 200 → m.1 k n j = mv k n j) : r_x f_st (cN a) 0 m m := by
  have hN := cN_r a
  have hR := cR_r a b
  obtain ⟨N, eN⟩ : ∃ N, N = cN a := ⟨_, rfl⟩
  obtain ⟨r, er⟩ : ∃ r, r = cR a b := ⟨_, rfl⟩
  rw [← eN] at Fc C m12 hN hR ⊢
  rw [← er] at C m12 hR
  -- the class's cells stand as its constructor left them
  have cm : ∀ k n j, k < 99 → k ≠ 12 → m.1 k n j = c.1 k n j ∧ m.2.1 k n j = c.2.1 k n j ∧ m.2.2 k n j = c.2.2 k n j := fun k n j k1 k2 => Fm k n (fun p => by have := pr_k p; omega) j
  have cg : ∀ k n j, 1000 ≤ k → k < 1100 → k ≠ 1012 → m.1 k n j = c.1 k n j := fun k n j k1 k2 k3 => (Fm k n (fun p => by have := pr_k p; omega) j).1
  have cz : ∀ k n j, k ≠ 99 → k ≠ 1099 → ¬ PC N k n → c.1 k n j = 0 ∧ c.2.1 k n j = 0 ∧ c.2.2 k n j = none := fun k n j k1 k2 p => by
    have t := Fc k n p j
    rw [t.1, t.2.1, t.2.2]
    exact ⟨e0.2 k n j k1 k2, (e0.1 k n j).1, (e0.1 k n j).2⟩
  obtain ⟨⟨⟨t1, t2, t3, t4⟩, _, _, _, t5, t6, t7, t8⟩, X0, X1, _, X8, XL, XC⟩ := C
  have XE : ∀ e, e = 0 ∨ e = 1 → E1 e N c := fun e he => by rcases he with rfl | rfl; exact X0; exact X1
  -- lines
  have L1 : ∀ l j, j ≠ 0 → j ≠ 17 → c.1 4 l j = 0 := fun l j j0 j1 => by
    by_cases q : 0 ≤ l ∧ l < 16
    · rw [(XL l q.1 q.2).1 j, if_neg j1, if_neg j0]
    · exact (cz 4 l j (by decide) (by decide) (fun p => q (pc4 (by omega) p))).1
  have L2 : ∀ l j, j ≠ 1 → j ≠ 2 → j ≠ 3 → c.2.2 4 l j = none := fun l j j1 j2 j3 => by
    by_cases q : 0 ≤ l ∧ l < 16
    · rw [(XL l q.1 q.2).2.1 j, if_neg (by omega)]
    · exact (cz 4 l j (by decide) (by decide) (fun p => q (pc4 (by omega) p))).2.2
  have L3 : ∀ l, c.1 4 l 17 = if 0 ≤ l ∧ l < 16 then -1 else 0 := fun l => by
    by_cases q : 0 ≤ l ∧ l < 16
    · rw [(XL l q.1 q.2).1 17, if_pos rfl, if_pos q]
    · rw [if_neg q]; exact (cz 4 l 17 (by decide) (by decide) (fun p => q (pc4 (by omega) p))).1
  -- circuits
  have T1 : ∀ t, c.1 8 t 2 = 0 ∧ c.2.2 8 t 3 = none := fun t => by
    by_cases q : PC N 8 t
    · rcases pc8 q with y | y
      · have z := X0.2.2.2.2.2.2.2.2.1 t y.1 y.2
        unfold Q8 at z
        rw [show 16 * 0 + t = t by omega] at z
        exact ⟨z.2.1, z.2.2.2.1⟩
      · have z := X1.2.2.2.2.2.2.2.2.1 (t - 16) (by omega) (by omega)
        unfold Q8 at z
        rw [show 16 * 1 + (t - 16) = t by omega] at z
        exact ⟨z.2.1, z.2.2.2.1⟩
    · have := cz 8 t 2 (by decide) (by decide) q
      exact ⟨this.1, (cz 8 t 3 (by decide) (by decide) q).2.2⟩
  -- groups
  have G1 : ∀ q, c.1 2 q 1 = 0 ∧ c.1 2 q 2 = 0 ∧ c.1 2 q 3 = 0 := fun q => by
    by_cases y : 0 ≤ q ∧ q < 6
    · by_cases x : q < 3
      · have z := X0.2.2.2.2.2.2.2.2.2 q y.1 x
        unfold Q2 at z
        rw [show 3 * 0 + q = q by omega] at z
        exact ⟨z.1, z.2.1, z.2.2.1⟩
      · have z := X1.2.2.2.2.2.2.2.2.2 (q - 3) (by omega) (by omega)
        unfold Q2 at z
        rw [show 3 * 1 + (q - 3) = q by omega] at z
        exact ⟨z.1, z.2.1, z.2.2.1⟩
    · have p : ¬ PC N 2 q := fun p => y (pc2 hN.2 p)
      exact ⟨(cz 2 q 1 (by decide) (by decide) p).1, (cz 2 q 2 (by decide) (by decide) p).1, (cz 2 q 3 (by decide) (by decide) p).1⟩
  have G2 : ∀ q, 0 ≤ q → q < 6 → c.1 2 q 4 = 1 ∧ c.1 2 q 5 = 0 := fun q q0 q1 => by
    by_cases x : q < 3
    · have z := X0.2.2.2.2.2.2.2.2.2 q q0 x
      unfold Q2 at z
      rw [show 3 * 0 + q = q by omega] at z
      exact ⟨z.2.2.2.1, z.2.2.2.2.1⟩
    · have z := X1.2.2.2.2.2.2.2.2.2 (q - 3) (by omega) (by omega)
      unfold Q2 at z
      rw [show 3 * 1 + (q - 3) = q by omega] at z
      exact ⟨z.2.2.2.1, z.2.2.2.2.1⟩
  -- the reference's arrays that are all empty
  have z0 : ∀ k n j, 100 ≤ k → k < 200 → k ≠ 165 → k ≠ 166 → k ≠ 187 → k ≠ 133 → k ≠ 155 → k ≠ 184 → k ≠ 119 → k ≠ 120 → k ≠ 121 → k ≠ 126 → m.1 k n j = 0 := fun k n j h1 h2 h3 h4 h5 h6 h7 h8 h9 h10 h11 h12 => by
    rw [mm k n j h1 h2]; unfold mv
    rw [if_neg (by omega), if_neg (by omega), if_neg (by omega), if_neg (by omega), if_neg (by omega), if_neg (by omega)]
  have m133 : ∀ j, 0 ≤ j → j < 80 → m.1 133 0 j = -1 := fun j j0 j1 => by
    rw [mm 133 0 j (by decide) (by decide)]; unfold mv
    rw [if_neg (by omega), if_neg (by omega), if_pos (by omega)]
  have m155 : ∀ j, 0 ≤ j → j < 32 → m.1 155 0 j = -1 := fun j j0 j1 => by
    rw [mm 155 0 j (by decide) (by decide)]; unfold mv
    rw [if_neg (by omega), if_neg (by omega), if_neg (by omega), if_pos (by omega)]
  have m184 : ∀ j, 0 ≤ j → j < 32 → m.1 184 0 j = 213 := fun j j0 j1 => by
    rw [mm 184 0 j (by decide) (by decide)]; unfold mv
    rw [if_neg (by omega), if_neg (by omega), if_neg (by omega), if_neg (by omega), if_pos (by omega)]
  have m119 : ∀ k j, k = 119 ∨ k = 120 ∨ k = 121 ∨ k = 126 → m.1 k 0 j = if 0 ≤ j ∧ j < 16 then -1 else 0 := fun k j hk => by
    rw [mm k 0 j (by omega) (by omega)]; unfold mv
    rw [if_neg (by omega), if_neg (by omega), if_neg (by omega), if_neg (by omega), if_neg (by omega)]
    by_cases y : 0 ≤ j ∧ j < 16
    · rw [if_pos (by omega), if_pos y]
    · rw [if_neg (by omega), if_neg y]
  have m187 : ∀ j, 0 ≤ j → j < 4 → m.1 187 0 j = 100 := fun j j0 j1 => by
    rw [mm 187 0 j (by decide) (by decide)]; unfold mv
    rw [if_neg (by omega), if_pos (by omega)]
  have m165 : ∀ k j, k = 165 ∨ k = 166 → j = 0 ∨ j = 1 → m.1 k 0 j = 1 := fun k j hk hj => by
    rw [mm k 0 j (by omega) (by omega)]; unfold mv
    rw [if_pos (by omega)]
  have dead : ∀ i, 0 ≤ i → i < 72 → m.1 0 i 9 = -1 := fun i i0 i1 => by rw [(cm 0 i 9 (by decide) (by decide)).1]; exact (XC i i0 i1).1
  have nl : ∀ i, ¬ lv m i := fun i l => l.2.2 (dead i l.1 l.2.1)
  have f11 : ∀ j, m.1 11 0 j = c.1 11 0 j := fun j => (cm 11 0 j (by decide) (by decide)).1
  have now0 : m.1 11 0 10 = 0 := by rw [f11]; exact t3 10 (by omega)
  refine ⟨⟨⟨?_, ?_, ?_, ?_, ?_, ?_, ?_, ?_, ?_, ?_⟩, ?_, ?_, ?_⟩, ?_, ?_⟩
  · -- r_k
    refine ⟨by rw [f11]; exact t1, m12.1, hN.1, hN.2, by rw [f11, t2]; exact m12.2.1, by rw [f11, t2]; exact hR.1, by rw [f11, t2]; exact hR.2, by rw [now0]; exact m12.2.2 2 (by omega), by rw [now0]; exact Int.le_refl _, by rw [now0]; omega, fun e he => ⟨?_, ?_⟩, fun l l0 l1 => ?_, fun e k he k0 k1 => ⟨?_, ?_⟩⟩
    · rw [cg 1020 e 1 (by decide) (by decide) (by decide)]; exact (XE e he).2.2.1.1
    · rw [(cm 1 e 0 (by decide) (by decide)).1]; exact (XE e he).1.1
    · rw [(cm 4 l 0 (by decide) (by decide)).1, (XL l l0 l1).1 0, if_neg (by decide), if_pos rfl]
    · rw [(cm 8 _ 0 (by decide) (by decide)).1]; exact ((XE e he).2.2.2.2.2.2.2.2.1 k k0 k1).1
    · rw [(cm 8 _ 1 (by decide) (by decide)).2.2]
      rcases he with rfl | rfl
      · rw [show 16 * 0 + k = k by omega, (X8 k k0 k1).1]; congr 1
      · rw [show 16 * 1 + k = 16 + k by omega, (X8 k k0 k1).2]; congr 1; omega
  · -- r_l
    intro l
    have q : ∀ j, m.1 4 l j = c.1 4 l j := fun j => (cm 4 l j (by decide) (by decide)).1
    rw [q, q, q, q, q, q, q, q, q, q, q, q, q, L1 l 6 (by decide) (by decide), L1 l 5 (by decide) (by decide), L1 l 8 (by decide) (by decide), L1 l 10 (by decide) (by decide), L1 l 9 (by decide) (by decide), L1 l 4 (by decide) (by decide), L1 l 14 (by decide) (by decide), L1 l 15 (by decide) (by decide), L1 l 7 (by decide) (by decide), L1 l 16 (by decide) (by decide), L1 l 18 (by decide) (by decide), L1 l 19 (by decide) (by decide), L3 l, m119 126 l (by omega)]
    refine ⟨?_, ?_, ?_, ?_, ?_, ?_, ?_, ?_, ?_, fun _ _ => ?_, rfl, ?_, ?_⟩ <;> exact z0 _ 0 l (by decide) (by decide) (by decide) (by decide) (by decide) (by decide) (by decide) (by decide) (by decide) (by decide) (by decide) (by decide)
  · -- r_h
    have nn : ∀ l j, j = 11 ∨ j = 12 ∨ j = 13 → m.2.2 4 l j = none := fun l j hj => by rw [(cm 4 l j (by decide) (by decide)).2.2]; exact L2 l j (by omega) (by omega) (by omega)
    have tt : ∀ t, m.1 8 t 2 = 0 ∧ m.2.2 8 t 3 = none := fun t => by rw [(cm 8 t 2 (by decide) (by decide)).1, (cm 8 t 3 (by decide) (by decide)).2.2]; exact T1 t
    refine ⟨fun i i0 i1 => ?_, fun i i0 i1 => ?_, fun i l => (nl i l).elim, fun i l => (nl i l).elim, fun i l => (nl i l).elim, fun i l => (nl i l).elim, fun i l => (nl i l).elim, fun i l => (nl i l).elim, fun i l => (nl i l).elim, fun i l => (nl i l).elim, fun i l => (nl i l).elim, fun i l => (nl i l).elim, fun i l => (nl i l).elim, fun i l => (nl i l).elim, fun l l0 l1 => ?_, fun l l0 l1 _ => ?_, fun l l0 l1 => ?_, fun l i q => ?_, fun l i q => ?_, fun l i j q => ?_, fun l i q => ?_, fun l _ => ⟨nn l 11 (by omega), nn l 12 (by omega)⟩, fun i l q => (nl i q).elim, fun i j l q => (nl i q).elim, fun i l q => (nl i q).elim, fun i l q => (nl i q).elim, fun t a1 a2 _ => ?_, fun t a1 a2 => ?_, fun t _ _ _ => Or.inl ⟨Or.inl (tt t).1, (tt t).2⟩, fun i t q => (nl i q).elim, fun i t q => (nl i q).elim, fun q => absurd q (by decide), fun q => absurd q (by decide), fun i q => (nl i q).elim⟩
    · rw [dead i i0 i1]
      have e1 : f_st i = i := if_neg (by omega)
      rw [e1, m133 i i0 (by omega)]; exact ⟨rfl, by omega, by omega⟩
    · have e1 : f_st i = i := if_neg (by omega)
      rw [e1]; exact m133 i (by omega) i1
    · rw [nn l 11 (by omega), m119 119 l (by omega), if_pos ⟨l0, l1⟩]; rfl
    · rw [nn l 12 (by omega), m119 120 l (by omega), if_pos ⟨l0, l1⟩]; rfl
    · rw [nn l 13 (by omega), m119 121 l (by omega), if_pos ⟨l0, l1⟩]; rfl
    · rw [nn l 11 (by omega)] at q; cases q
    · rw [nn l 12 (by omega)] at q; cases q
    · rw [nn l 12 (by omega)] at q; cases q
    · rw [nn l 13 (by omega)] at q; cases q
    · rw [(tt t).1]; exact z0 154 0 t (by decide) (by decide) (by decide) (by decide) (by decide) (by decide) (by decide) (by decide) (by decide) (by decide) (by decide) (by decide)
    · rw [(tt t).2, m155 t a1 a2]; rfl
  · -- r_m
    intro e he
    have q : ∀ j, m.1 5 e j = if j = 5 ∨ j = 6 then 1 else 0 := fun j => by rw [(cm 5 e j (by decide) (by decide)).1]; exact (XE e he).2.2.2.2.1 j
    have y : ∀ k, k = 160 ∨ k = 161 ∨ k = 162 ∨ k = 163 ∨ k = 164 ∨ k = 167 → m.1 k 0 e = 0 := fun k hk => z0 k 0 e (by omega) (by omega) (by omega) (by omega) (by omega) (by omega) (by omega) (by omega) (by omega) (by omega) (by omega) (by omega)
    have q0 : m.1 5 e 0 = 0 := by rw [q, if_neg (by decide)]
    have q1 : m.1 5 e 1 = 0 := by rw [q, if_neg (by decide)]
    have q2 : m.1 5 e 2 = 0 := by rw [q, if_neg (by decide)]
    have q3 : m.1 5 e 3 = 0 := by rw [q, if_neg (by decide)]
    have q4 : m.1 5 e 4 = 0 := by rw [q, if_neg (by decide)]
    have q5 : m.1 5 e 5 = 1 := by rw [q, if_pos (by decide)]
    have q6 : m.1 5 e 6 = 1 := by rw [q, if_pos (by decide)]
    have q7 : m.1 5 e 7 = 0 := by rw [q, if_neg (by decide)]
    unfold r_m
    rw [q0, q1, q2, q3, q4, q5, q6, q7, y 160 (by omega), y 161 (by omega), y 162 (by omega), y 163 (by omega), y 164 (by omega), y 167 (by omega), m165 165 e (by omega) he, m165 166 e (by omega) he]
    exact ⟨⟨rfl, rfl, rfl, rfl, rfl, rfl, rfl, rfl⟩, by omega, fun i a b => by omega⟩
  · -- r_q
    have g : ∀ q, m.1 2 q 1 = 0 ∧ m.1 2 q 2 = 0 ∧ m.1 2 q 3 = 0 := fun q => by rw [(cm 2 q 1 (by decide) (by decide)).1, (cm 2 q 2 (by decide) (by decide)).1, (cm 2 q 3 (by decide) (by decide)).1]; exact G1 q
    have y : ∀ k q, k = 150 ∨ k = 151 ∨ k = 153 → m.1 k 0 q = 0 := fun k q hk => z0 k 0 q (by omega) (by omega) (by omega) (by omega) (by omega) (by omega) (by omega) (by omega) (by omega) (by omega) (by omega) (by omega)
    refine ⟨fun q => ?_, fun q q0 q1 => ?_, fun q q0 q1 => ?_, fun q i j a' b' q0 q1 i0 ij j1 => ?_, fun id q l => (nl id l).elim, fun q q0 q1 => ?_⟩
    · rw [y 150 q (by omega), y 151 q (by omega), y 153 q (by omega), (g q).1, (g q).2.1, (g q).2.2]; exact ⟨rfl, rfl, rfl⟩
    · rw [y 150 q (by omega)]; exact ⟨by omega, by omega, fun i a b => by omega, fun i j a b => by omega⟩
    · rw [y 153 q (by omega)]; exact ⟨by omega, fun i a b => by omega⟩
    · rw [y 153 q (by omega)] at j1; omega
    · rw [(cm 2 q 4 (by decide) (by decide)).1, (cm 2 q 5 (by decide) (by decide)).1, (G2 q q0 q1).1, (G2 q q0 q1).2, y 151 q (by omega)]; omega
  · -- r_r
    have s1 : ∀ e r, rc m e r = 0 := fun e r => cn_0 (fun i i0 i1 => by rw [m133 i i0 i1]; exact decide_eq_false (fun z => absurd z.1 (by decide)))
    have s2 : rv m = 0 := cn_0 (fun i i0 i1 => by rw [m133 i i0 i1]; exact decide_eq_false (fun z => z rfl))
    have s3 : ∀ e r, e = 0 ∨ e = 1 → m.1 23 e r = 0 := fun e r he => by rw [(cm 23 e r (by decide) (by decide)).1]; exact (XE e he).2.2.2.1 r
    refine ⟨fun e r he hr => by rw [s1, s3 e r he], by rw [s2, f11]; exact t3 13 (by omega), fun e r he hr => by rw [s3 e r he]; omega⟩
  · -- r_a
    have s11 : m.1 11 0 11 = 0 := by rw [f11]; exact t3 11 (by omega)
    have s12 : m.1 11 0 12 = 0 := by rw [f11]; exact t3 12 (by omega)
    have s40 : ∀ i, 0 ≤ i → i < 72 → m.2.2 40 0 i = some i := fun i i0 i1 => by rw [(cm 40 0 i (by decide) (by decide)).2.2]; exact (XC i i0 i1).2
    refine ⟨by rw [s11]; exact ⟨by omega, show (0 : Int) ≤ 48 by omega, show (48 : Int) ≤ 72 by omega⟩, fun i i0 i1 => ⟨i, s40 i i0 i1, i0, i1⟩, fun i j i0 i1 j0 j1 q => ?_, fun i id i0 i1 q => ?_, fun id l => (nl id l).elim, fun i j x y _ _ j1 => ?_, fun x l => (nl x l).elim, ⟨?_, ?_, ?_⟩, fun x l => (nl x l).elim⟩
    · rw [s40 i i0 i1, s40 j j0 j1] at q; exact Option.some.inj q
    · rw [s11] at i0
      rw [s40 i i0 i1] at q
      rw [← Option.some.inj q]; exact dead i i0 i1
    · rw [s11] at j1; omega
    · rw [s12]; exact m12.2.2 32 (by omega)
    · rw [s12]; exact Int.le_refl _
    · rw [s12]; exact Int.le_refl _
  · -- r_g
    have s26 : ∀ j, m.1 26 0 j = if j = 1 ∨ j = 5 ∨ j = 9 ∨ j = 13 then 100 else 0 := fun j => by rw [(cm 26 0 j (by decide) (by decide)).1]; exact t7 j
    have y : ∀ k j, k = 186 ∨ k = 188 ∨ k = 189 ∨ k = 191 → m.1 k 0 j = 0 := fun k j hk => z0 k 0 j (by omega) (by omega) (by omega) (by omega) (by omega) (by omega) (by omega) (by omega) (by omega) (by omega) (by omega) (by omega)
    have s3 : m.1 3 0 2 = 0 := by rw [(cm 3 0 2 (by decide) (by decide)).1]; exact t6 2
    refine ⟨fun z z0' z1 => ?_, fun j => ?_, ?_, ?_, ?_⟩
    · rw [s26, s26, s26, s26, y 186 z (by omega), y 188 z (by omega), y 189 z (by omega), m187 z z0' z1, if_neg (by omega), if_pos (by omega), if_neg (by omega), if_neg (by omega)]; omega
    · rw [y 191 j (by omega), (cm 27 0 j (by decide) (by decide)).1, t8 j]
    · rw [s3]; exact m12.2.2 90 (by omega)
    · rw [s3]; exact Int.le_refl _
    · rw [s3]; exact Int.le_refl _
  · -- r_p
    intro e he
    have y : m.1 105 0 e = 0 := z0 105 0 e (by decide) (by decide) (by decide) (by decide) (by decide) (by decide) (by decide) (by decide) (by decide) (by decide) (by decide) (by decide)
    rw [y, (cm 1 e 4 (by decide) (by decide)).1, (XE e he).1.2]
    exact ⟨rfl, by omega, by omega, fun r r0 r1 => by omega⟩
  · -- r_f
    intro l w l0 l1 w0 w1
    have y : ∀ k j, k = 127 ∨ k = 129 → m.1 k 0 j = 0 := fun k j hk => z0 k 0 j (by omega) (by omega) (by omega) (by omega) (by omega) (by omega) (by omega) (by omega) (by omega) (by omega) (by omega) (by omega)
    rw [y 127 _ (by omega), (cm 28 l w (by decide) (by decide)).1, (XL l l0 l1).2.2.1 w]
    exact ⟨rfl, Or.inl rfl, k_R00 (by rw [(cm 29 l w (by decide) (by decide)).2.1]; exact (XL l l0 l1).2.2.2.1 w) (y 129 _ (by omega))⟩
  · -- r_d
    intro l l0 l1
    have q : ∀ j, m.1 4 l j = c.1 4 l j := fun j => (cm 4 l j (by decide) (by decide)).1
    rw [q 8, q 9, q 10, q 4, L1 l 8 (by decide) (by decide), L1 l 9 (by decide) (by decide), L1 l 10 (by decide) (by decide), L1 l 4 (by decide) (by decide)]
    exact ⟨by omega, by omega, by omega, fun j a b => by omega⟩
  · -- r_s
    refine ⟨fun l l0 l1 => ?_, fun e k he k0 k1 => ?_⟩
    · rw [(cm 4 l 18 (by decide) (by decide)).1, L1 l 18 (by decide) (by decide)]; omega
    · rw [(cm 8 _ 4 (by decide) (by decide)).1, ((XE e he).2.2.2.2.2.2.2.2.1 k k0 k1).2.2.1, m184 _ (by omega) (by omega)]
      exact ⟨rfl, 213, by omega, rfl⟩
  · -- r_u
    rw [now0]
    have s7 : ∀ t, t = 0 ∨ t = 1 → m.1 7 t 2 = 0 := fun t ht => by rw [(cm 7 t 2 (by decide) (by decide)).1]; exact (t5 t ht).1 2
    refine ⟨⟨⟨[], ⟨?_, by simp, fun j hj => absurd hj (by simp)⟩, ⟨?_, by simp [fc], fun j hj => absurd hj (by simp [fc]), fun p hp => by simp [fc] at hp, fun q => absurd rfl q⟩, fun p hp => by cases hp⟩, ⟨[], ⟨?_, by simp, fun j hj => absurd hj (by simp)⟩, ⟨?_, by simp [fc], fun j hj => absurd hj (by simp [fc]), fun p hp => by simp [fc] at hp, fun q => absurd rfl q⟩, fun p hp => by cases hp⟩⟩, fun e s he s0 s1 => Or.inl ⟨s1, ?_⟩, fun e s he s0 _ s2 => by omega⟩
    · rw [m12.2.2 75 (by omega)]; rfl
    · rw [s7 0 (Or.inl rfl)]; rfl
    · rw [m12.2.2 79 (by omega)]; rfl
    · rw [s7 1 (Or.inr rfl)]; rfl
    · rw [(cm 9 _ 5 (by decide) (by decide)).1]
      exact ((XE e he).2.2.2.2.2.2.2.1 (s % 2) (by omega) (by omega)).2
  · exact k_R00 (by rw [(cm 11 0 9 (by decide) (by decide)).2.1]; exact t4) (m12.2.2 4 (by omega))
  · intro e x he _ _
    rw [cg 1006 _ 0 (by decide) (by decide) (by decide), (cz 1006 _ 0 (by decide) (by decide) (fun p => pc6 p)).1]; decide
