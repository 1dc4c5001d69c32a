/-! ===== what constructors make: both exchanges, ledger, troubles, wire ===== -/
def PX (e N : Int) (k : Nat) (n : Int) : Prop := P1 e N k n ∨ (k = 1001 ∧ n = e) ∨ (k = 38 ∧ n = 0)
section IE
variable {e N : Int} {h hs : JM}
theorem p1_cases {k : Nat} {n : Int} (he : e = 0 ∨ e = 1) (hN : N ≤ 16) (q : P1 e N k n) : (k ≠ 2 ∧ k ≠ 1002 ∧ k ≠ 25 ∧ k ≠ 1025 ∧ k ≠ 8 ∧ k ≠ 1008 ∧ k ≠ 9 ∧ k ≠ 1009 ∧ n = e) ∨ ((k = 2 ∨ k = 1002 ∨ k = 25 ∨ k = 1025) ∧ 3 * e ≤ n ∧ n < 3 * e + 3) ∨ ((k = 8 ∨ k = 1008) ∧ 16 * e ≤ n ∧ n < 16 * e + 16) ∨ ((k = 9 ∨ k = 1009) ∧ ((64 * e ≤ n ∧ n < 64 * e + 64) ∨ (128 + 2 * e ≤ n ∧ n < 128 + 2 * e + 2))) := by
  rcases q with q | q | q | q
  · unfold P5 at q; omega
  · unfold P61 at q; omega
  · unfold P88 at q; omega
  · omega
theorem p1_kind {k : Nat} {n : Int} (q : P1 e N k n) : k = 1 ∨ k = 2 ∨ k = 5 ∨ k = 8 ∨ k = 9 ∨ (20 ≤ k ∧ k ≤ 25) ∨ (31 ≤ k ∧ k ≤ 33) ∨ k = 1002 ∨ k = 1005 ∨ k = 1008 ∨ k = 1009 ∨ (1020 ≤ k ∧ k ≤ 1025) ∨ (1031 ≤ k ∧ k ≤ 1033) := by
  rcases q with q | q | q | q
  · unfold P5 at q; omega
  · unfold P61 at q; omega
  · unfold P88 at q; omega
  · omega
theorem p1_dj {k : Nat} {n : Int} (hN : N ≤ 16) (q : P1 0 N k n) : ¬ PX 1 N k n := fun r => by
  have a := p1_cases (Or.inl rfl) hN q
  have b := p1_kind q
  rcases r with r | r | r
  · have c := p1_cases (Or.inr rfl) hN r
    omega
  · omega
  · omega
theorem p1_dj2 {k : Nat} {n : Int} (hN : N ≤ 16) (q : P1 1 N k n) : ¬ PX 0 N k n := fun r => by
  have a := p1_cases (Or.inr rfl) hN q
  have b := p1_kind q
  rcases r with r | r | r
  · have c := p1_cases (Or.inl rfl) hN r
    omega
  · omega
  · omega
theorem e1_fr {P : Nat → Int → Prop} {a b : JM} (F : fr P a b) (hd : ∀ k n, P1 e N k n → ¬ P k n) (q : E1 e N a) : E1 e N b := by
  obtain ⟨⟨q1, q2⟩, ⟨q3, q4, q5, q6, q7, q8⟩, ⟨l1, l2, l3, l4, l5, l6, l7, l8⟩, q9, q10, ⟨q11, q12, q13⟩, q14, q15, q16, q17⟩ := q
  have o : ∀ k n, P1 e N k n → ∀ j, b.1 k n j = a.1 k n j ∧ b.2.1 k n j = a.2.1 k n j ∧ b.2.2 k n j = a.2.2 k n j := fun k n p j => F k n (hd k n p) j
  refine ⟨⟨?_, ?_⟩, ⟨?_, ?_, ?_, ?_, ?_, ?_⟩, ⟨?_, ?_, ?_, ?_, ?_, ?_, ?_, ?_⟩, ?_, ?_, ⟨?_, ?_, ?_⟩, ?_, ?_, ?_, ?_⟩
  · rw [(o 1 e (by unfold P1; omega) 0).1]; exact q1
  · rw [(o 1 e (by unfold P1; omega) 4).1]; exact q2
  · rw [(o 1 e (by unfold P1; omega) 1).2.2]; exact q3
  · rw [(o 1 e (by unfold P1; omega) 2).2.2]; exact q4
  · rw [(o 1 e (by unfold P1; omega) 3).2.2]; exact q5
  · rw [(o 1 e (by unfold P1; omega) 5).2.2]; exact q6
  · rw [(o 1 e (by unfold P1; omega) 6).2.2]; exact q7
  · rw [(o 1 e (by unfold P1; omega) 7).2.2]; exact q8
  · rw [(o 1020 e (by unfold P1; omega) 1).1]; exact l1
  · rw [(o 1021 e (by unfold P1; omega) 1).1]; exact l2
  · rw [(o 1022 e (by unfold P1; omega) 1).1]; exact l3
  · rw [(o 1023 e (by unfold P1; omega) 1).1]; exact l4
  · rw [(o 1024 e (by unfold P1; omega) 1).1]; exact l5
  · rw [(o 1031 e (Or.inl (by unfold P5; omega)) 1).1]; exact l6
  · rw [(o 1032 e (Or.inl (by unfold P5; omega)) 1).1]; exact l7
  · rw [(o 1033 e (Or.inl (by unfold P5; omega)) 1).1]; exact l8
  · intro j; rw [(o 23 e (by unfold P1; omega) j).1]; exact q9 j
  · intro j; rw [(o 5 e (Or.inl (by unfold P5; omega)) j).1]; exact q10 j
  · rw [(o 5 e (Or.inl (by unfold P5; omega)) 8).2.2]; exact q11
  · rw [(o 5 e (Or.inl (by unfold P5; omega)) 9).2.2]; exact q12
  · rw [(o 5 e (Or.inl (by unfold P5; omega)) 10).2.2]; exact q13
  · intro j j0 j1; rw [(o 32 e (Or.inl (by unfold P5; omega)) j).2.2]; exact q14 j j0 j1
  · intro j j0 j1; rw [(o 33 e (Or.inl (by unfold P5; omega)) j).2.2, (o 9 (128 + 2 * e + j) (Or.inl (by unfold P5; omega)) 5).1]; exact q15 j j0 j1
  · intro j j0 j1; exact q8_fr F (q16 j j0 j1) (hd _ _ (Or.inr (Or.inl (by unfold P61; omega)))) (o 20 e (Or.inr (Or.inl (by unfold P61; omega))) j).2.2
  · intro j j0 j1; exact q2_fr F (q17 j j0 j1) (hd _ _ (Or.inr (Or.inr (Or.inl (by unfold P88; omega))))) (hd _ _ (Or.inr (Or.inr (Or.inl (by unfold P88; omega))))) (o 21 e (Or.inr (Or.inr (Or.inl (by unfold P88; omega)))) j).2.2
theorem s134 (he : e = 0 ∨ e = 1) (hN : 1 ≤ N ∧ N ≤ 16) (hz : ∀ k n, P1 e N k n → 1002 ≤ k → h.1 k n 0 ≠ 1) (g1 : h.1 1001 e 0 ≠ 1) (n0 : h.1 11 0 0 = N) (r2 : h.2.2 11 0 2 = some 0) (l38 : h.1 1038 0 1 = 2) (n : Nat) : ∃ h', F11_init_134 (n + 1) e h = F11_init_134 n (e + 1) h' ∧ fr (PX e N) h h' ∧ E1 e N h' ∧ h'.2.2 38 0 e = some e ∧ (∀ j, j ≠ e → h'.2.2 38 0 j = h.2.2 38 0 j) := by
  have n1 : (j_nw h 1 e 0).1 11 0 0 = N := by rw [nwI (Or.inl (by decide)) (Or.inl (by decide)), n0]
  obtain ⟨h1, y1, y2, y3⟩ := i1 (h := j_nw h 1 e 0) (N := N) he hN (fun k n p q => by
    have kk := p1_kind p
    rw [nwI (Or.inl (by omega)) (Or.inl (by omega))]; exact hz k n p q) (nw_I h 1 e 0 4)
  have F1 : fr (PX e N) h h1 := fr_tr (fr_N (fr_rfl h) (Or.inl (by unfold P1; omega)) (Or.inr (Or.inl ⟨rfl, rfl⟩)) _) (fr_mono (fun k n q => Or.inl q) y2)
  have nk : ∀ k n, P1 e N k n → k ≠ 1038 ∧ k ≠ 11 ∧ k ≠ 38 := fun k n p => by have := p1_kind p; omega
  have l1 : h1.1 1038 0 1 = 2 := by rw [(y2 1038 0 (fun p => (nk _ _ p).1 rfl) 1).1, nwI (Or.inl (by decide)) (Or.inl (by decide)), l38]
  refine ⟨sR h1 38 0 e (some e), ?_, fr_R F1 (Or.inr (Or.inr ⟨rfl, rfl⟩)) _ _, ?_, rR_s _ _ _ _ _, fun j hj => ?_⟩
  · show F11_init_134b (F11_init_134 n) e h = _
    unfold F11_init_134b
    rw [if_neg (by omega), g_t g1, lt_d, n1, y1, Option.bind_some, r2, Option.bind_some, l1, g_t (by omega), lt_d, w32_of (by omega) (by omega)]
  · exact e1_fr (P := fun k n => k = 38 ∧ n = 0) (fr_R (fr_rfl h1) ⟨rfl, rfl⟩ _ _) (fun k n p q => (nk k n p).2.2 q.1) y3
  · rw [rR_o (Or.inr (Or.inr hj)), (y2 38 0 (fun p => (nk _ _ p).2.2 rfl) j).2.2, nwR (Or.inl (by decide))]
theorem i134 (hN : 1 ≤ N ∧ N ≤ 16) (hz : ∀ e, e = 0 ∨ e = 1 → ∀ k n, P1 e N k n → 1002 ≤ k → hs.1 k n 0 ≠ 1) (g1 : hs.1 1001 0 0 ≠ 1 ∧ hs.1 1001 1 0 ≠ 1) (n0 : hs.1 11 0 0 = N) (r2 : hs.2.2 11 0 2 = some 0) (l38 : hs.1 1038 0 1 = 2) : ∃ h', F11_init_134 j_f0 0 hs = F11_init_165 j_f0 0 h' ∧ fr (fun k n => PX 0 N k n ∨ PX 1 N k n) hs h' ∧ E1 0 N h' ∧ E1 1 N h' ∧ h'.2.2 38 0 0 = some 0 ∧ h'.2.2 38 0 1 = some 1 := by
  obtain ⟨h1, y1, y2, y3, y4, _⟩ := s134 (h := hs) (Or.inl rfl) hN (hz 0 (Or.inl rfl)) g1.1 n0 r2 l38 99
  have nx : ∀ e k n, PX e N k n → k ≠ 11 ∧ k ≠ 1038 := fun e k n p => by
    rcases p with p | p | p
    · have := p1_kind p; omega
    · omega
    · omega
  obtain ⟨h2, z1, z2, z3, z4, z5⟩ := s134 (e := 1) (h := h1) (Or.inr rfl) hN (fun k n p q => by rw [(y2 k n (p1_dj2 hN.2 p) 0).1]; exact hz 1 (Or.inr rfl) k n p q) (by
    rw [(y2 1001 1 (fun p => by
      rcases p with p | p | p
      · have := p1_kind p; omega
      · omega
      · omega) 0).1]; exact g1.2) (by rw [(y2 11 0 (fun p => (nx _ _ _ p).1 rfl) 0).1, n0]) (by rw [(y2 11 0 (fun p => (nx _ _ _ p).1 rfl) 2).2.2, r2]) (by rw [(y2 1038 0 (fun p => (nx _ _ _ p).2 rfl) 1).1, l38]) 98
  refine ⟨h2, ?_, fr_tr (fr_mono (fun k n q => Or.inl q) y2) (fr_mono (fun k n q => Or.inr q) z2), e1_fr z2 (fun k n p => p1_dj hN.2 p) y3, z3, ?_, z4⟩
  · have e1 : F11_init_134 j_f0 0 hs = F11_init_134 99 1 h1 := y1
    have e2 : F11_init_134 99 1 h1 = F11_init_134 98 2 h2 := z1
    rw [e1, e2]
    show F11_init_134b (F11_init_134 97) 2 h2 = _
    unfold F11_init_134b
    rw [if_pos (by omega)]
  · rw [z5 0 (by decide)]; exact y4
def P3 (k : Nat) (n : Int) : Prop := (k = 3 ∨ k = 26 ∨ k = 27 ∨ k = 1026 ∨ k = 1027) ∧ n = 0
theorem i3 (g1 : h.1 1026 0 0 ≠ 1) (g2 : h.1 1027 0 0 ≠ 1) : ∃ h', F3_init h = some h' ∧ fr P3 h h' ∧ (∀ j, h'.1 3 0 j = h.1 3 0 j) ∧ (h'.2.2 3 0 0 = some 0 ∧ h'.2.2 3 0 1 = some 0) ∧ (h'.1 1026 0 1 = 16 ∧ h'.1 1027 0 1 = 1500) ∧ (∀ j, h'.1 26 0 j = if j = 1 ∨ j = 5 ∨ j = 9 ∨ j = 13 then 100 else 0) ∧ (∀ j, h'.1 27 0 j = 0) := by
  obtain ⟨h1, eh1⟩ : ∃ h1, h1 = sR (j_nw (sR (j_nw h 26 0 16) 3 0 0 (some 0)) 27 0 1500) 3 0 1 (some 0) := ⟨_, rfl⟩
  have F1 : fr P3 h h1 := by
    rw [eh1]
    exact fr_R (fr_N (fr_R (fr_N (fr_rfl h) (by unfold P3; omega) (by unfold P3; omega) _) (by unfold P3; omega) _ _) (by unfold P3; omega) (by unfold P3; omega) _) (by unfold P3; omega) _ _
  have a1 : ∀ j, h1.1 26 0 j = 0 := fun j => by rw [eh1]; simp [rI_I, rI_L, rI_R, rL_I, rL_L, rL_R, rR_I, rR_L, rR_R, nN_I, nN_L, nN_R]
  have a2 : ∀ j, h1.1 27 0 j = 0 := fun j => by rw [eh1]; simp [rI_I, rI_L, rI_R, rL_I, rL_L, rL_R, rR_I, rR_L, rR_R, nN_I, nN_L, nN_R]
  have a3 : ∀ j, h1.1 3 0 j = h.1 3 0 j := fun j => by rw [eh1]; simp [rI_I, rI_L, rI_R, rL_I, rL_L, rL_R, rR_I, rR_L, rR_R, nN_I, nN_L, nN_R]
  have a4 : h1.2.2 3 0 0 = some 0 ∧ h1.2.2 3 0 1 = some 0 := by rw [eh1]; simp [rI_I, rI_L, rI_R, rL_I, rL_L, rL_R, rR_I, rR_L, rR_R, nN_I, nN_L, nN_R]
  have a5 : h1.1 1026 0 1 = 16 ∧ h1.1 1027 0 1 = 1500 := by rw [eh1]; simp [rI_I, rI_L, rI_R, rL_I, rL_L, rL_R, rR_I, rR_L, rR_R, nN_I, nN_L, nN_R]
  have T := gl (L := fun n i h => F3_init_23 n i h) (M := 4) (E := fun h => some h) (I := fun i g => g.2 = h1.2 ∧ ∀ k n j, g.1 k n j = if k = 26 ∧ n = 0 ∧ (j = 1 ∨ j = 5 ∨ j = 9 ∨ j = 13) ∧ j < 4 * i then 100 else h1.1 k n j) (fun n g I => by
    show F3_init_23b (F3_init_23 n) 4 g = _
    unfold F3_init_23b
    rw [if_pos (by omega)]) (fun n u g i0 i1 I => by
    obtain ⟨I1, I2⟩ := I
    have b1 : g.2.2 3 0 0 = some 0 := by rw [I1]; exact a4.1
    have b2 : g.1 1026 0 1 = 16 := by rw [I2, if_neg (fun z => absurd z.1 (by decide))]; exact a5.1
    have w1 : w32 (w32 (u * 4) + 1) = 4 * u + 1 := by rw [w32_of (x := u * 4) (by omega) (by omega), w32_of (by omega) (by omega)]; omega
    refine ⟨sI g 26 0 (4 * u + 1) 100, ?_, I1, ?_⟩
    · show F3_init_23b (F3_init_23 n) u g = _
      unfold F3_init_23b
      rw [if_neg (by omega), b1, Option.bind_some, w1, b2, g_t (by omega), lt_d, w32_of (by omega) (by omega)]
    · intro k n' j
      by_cases z : k = 26 ∧ n' = 0 ∧ j = 4 * u + 1
      · obtain ⟨z1, z2, z3⟩ := z
        subst z1; subst z2; subst z3
        rw [rI_s, if_pos (by omega)]
      · rw [rI_o (by omega), I2]
        by_cases y : k = 26 ∧ n' = 0 ∧ (j = 1 ∨ j = 5 ∨ j = 9 ∨ j = 13) ∧ j < 4 * u
        · rw [if_pos y, if_pos (by omega)]
        · rw [if_neg y, if_neg (by omega)]) 4 j_f0 0 h1 (by omega) (by omega) (by unfold j_f0; omega) ⟨rfl, fun k n j => by rw [if_neg (by omega)]⟩
  obtain ⟨h2, y1, y2, y3⟩ := T
  have o : ∀ k n j, k ≠ 26 → h2.1 k n j = h1.1 k n j := fun k n j q => by rw [y3, if_neg (fun z => q z.1)]
  refine ⟨h2, ?_, ?_, ?_, ?_, ?_, ?_, ?_⟩
  · unfold F3_init
    rw [g_t g1, lt_d, lt_d, g_t (by simpa [rI_I, rI_L, rI_R, rL_I, rL_L, rL_R, rR_I, rR_L, rR_R, nN_I, nN_L, nN_R] using g2), lt_d, lt_d, ← eh1]; exact y1
  · intro k n p j
    have t := F1 k n p j
    refine ⟨?_, by rw [y2]; exact t.2.1, by rw [y2]; exact t.2.2⟩
    rw [y3, if_neg (fun z => p (by unfold P3; omega))]; exact t.1
  · intro j; rw [o 3 0 j (by decide)]; exact a3 j
  · rw [y2]; exact a4
  · rw [o 1026 0 1 (by decide), o 1027 0 1 (by decide)]; exact a5
  · intro j
    rw [y3, a1]
    by_cases z : j = 1 ∨ j = 5 ∨ j = 9 ∨ j = 13
    · rw [if_pos z, if_pos ⟨rfl, rfl, z, by omega⟩]
    · rw [if_neg z, if_neg (fun y => z y.2.2.1)]
  · intro j; rw [o 27 0 j (by decide)]; exact a2 j
theorem f7_i (t : Int) {h : JM} (g1 : h.1 1034 t 0 ≠ 1) (g2 : h.1 1035 t 0 ≠ 1) : F7_init t h = some (sR (j_nw (sR (j_nw h 34 t 300) 7 t 0 (some t)) 35 t 300) 7 t 1 (some t)) := by
  unfold F7_init
  rw [g_t g1, lt_d, lt_d, g_t (by simpa [rI_I, rI_L, rI_R, rL_I, rL_L, rL_R, rR_I, rR_L, rR_R, nN_I, nN_L, nN_R] using g2), lt_d, lt_d]
theorem f10_i {h : JM} (g1 : h.1 1036 0 0 ≠ 1) (g2 : h.1 1037 0 0 ≠ 1) : F10_init h = some (sR (j_nw (sR (j_nw h 36 0 256) 10 0 0 (some 0)) 37 0 256) 10 0 4 (some 0)) := by
  unfold F10_init
  rw [g_t g1, lt_d, lt_d, g_t (by simpa [rI_I, rI_L, rI_R, rL_I, rL_L, rL_R, rR_I, rR_L, rR_R, nN_I, nN_L, nN_R] using g2), lt_d, lt_d]
end IE
