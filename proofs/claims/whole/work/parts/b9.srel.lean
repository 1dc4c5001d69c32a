/-! ===== speech: the relation ===== -/
def w_S (k : Nat) (j : Int) : Bool := k == 24 || (k == 4 && j == 19) || (k == 8 && (j == 4 || j == 5))
def w_Sm (k : Nat) (_ : Int) : Bool := k == 131 || k == 184 || k == 185
/-- speech between two ticks -/
def r_s (N : Int) (c m : JM) : Prop := (∀ l, 0 ≤ l → l < 16 → -8000 ≤ c.1 4 l 18 ∧ c.1 4 l 18 ≤ 8000) ∧ (∀ e k, e = 0 ∨ e = 1 → 0 ≤ k → k < N → m.1 184 0 (16 * e + k) = c.1 8 (16 * e + k) 4 ∧ ∃ n : Nat, n < 256 ∧ c.1 8 (16 * e + k) 4 = (n : Int))
/-- while speech is carried -/
def ps (N : Int) (c c1 : JM) : Prop := c1.2 = c.2 ∧ (∀ k n j, w_S k j = false → c1.1 k n j = c.1 k n j) ∧ (∀ e k, e = 0 ∨ e = 1 → 0 ≤ k → k < N → c1.1 8 (16 * e + k) 5 = c.1 8 (16 * e + k) 4)
section SP
variable {f : Int → Int} {N : Int} {c m c' m' c1 : JM} {B : Int} {H : HT}
theorem rel_s (hf : f_ok f) (R : relN f N B H c m) (sc : so w_S c c') (sm : so w_Sm m m') (hl : ∀ l, m'.1 131 0 l = c'.1 4 l 19) : relN f N B H c' m' := by
  obtain ⟨R1, R2, R3, R4, R5, R6, R7, R8, R9, R10⟩ := R
  refine ⟨?_, ?_, ?_, ?_, ?_, ?_, ?_, ?_, ?_, ?_⟩
  · exact r_k_cg (fun k n j q => by have := sc k n j (by simp [rkC] at q; simp [w_S]; omega); exact ⟨this.1, this.2.2⟩) (fun k n j q => (sm k n j (by simp [rkM] at q; simp [w_Sm]; omega)).1) R1
  · intro l
    obtain ⟨a1, a2, a3, a4, a5, a6, a7, a8, a9, a10, a11, a12, a13⟩ := R2 l
    refine ⟨?_, ?_, ?_, ?_, ?_, ?_, ?_, ?_, ?_, ?_, ?_, ?_, hl l⟩
    · rw [(sm 112 0 l rfl).1, (sc 4 l 6 rfl).1]; exact a1
    · rw [(sm 113 0 l rfl).1, (sc 4 l 5 rfl).1]; exact a2
    · rw [(sm 114 0 l rfl).1, (sc 4 l 8 rfl).1]; exact a3
    · rw [(sm 115 0 l rfl).1, (sc 4 l 10 rfl).1]; exact a4
    · rw [(sm 116 0 l rfl).1, (sc 4 l 9 rfl).1]; exact a5
    · rw [(sm 118 0 l rfl).1, (sc 4 l 4 rfl).1]; exact a6
    · rw [(sm 122 0 l rfl).1, (sc 4 l 14 rfl).1]; exact a7
    · rw [(sm 123 0 l rfl).1, (sc 4 l 15 rfl).1]; exact a8
    · rw [(sm 124 0 l rfl).1, (sc 4 l 7 rfl).1]; exact a9
    · rw [(sm 125 0 l rfl).1, (sc 4 l 16 rfl).1]; exact a10
    · rw [(sm 126 0 l rfl).1, (sc 4 l 17 rfl).1]; exact a11
    · rw [(sm 130 0 l rfl).1, (sc 4 l 18 rfl).1]; exact a12
  · exact r_h_cg (fun k n j q => sc k n j (by simp [rdC] at q; simp [w_S]; omega)) (fun k n j q => (sm k n j (by simp [rdM] at q; simp [w_Sm]; omega)).1) R3
  · exact fun e he => r_m_cg (fun k n j q => by rcases q with rfl | rfl <;> exact ⟨(sc _ n j rfl).1, (sc _ n j rfl).2.1⟩) (fun k n j a b => (sm k n j (by simp [w_Sm]; omega)).1) (R4 e he)
  · exact q_cg R5 (fun n => by rw [(sc 0 n 9 rfl).1, (sc 0 n 5 rfl).2.2, (sc 0 n 14 rfl).1]; exact ⟨Iff.rfl, fun _ => ⟨rfl, rfl⟩⟩) hf (fun n j => (sc 2 n j rfl).1) (fun n j => (sc 25 n j rfl).2.2) (fun k j a b => (sm k 0 j (by simp [w_Sm]; omega)).1)
  · exact rr_cg R6 (fun s _ _ => by rw [(sm 133 0 s rfl).1, (sm 135 0 s rfl).1, (sm 137 0 s rfl).1]; exact ⟨Iff.rfl, fun _ _ _ _ => Iff.rfl⟩) (fun e r => (sc 23 e r rfl).1) (sc 11 0 13 rfl).1
  · exact a_cg R7 (fun n => by rw [(sc 0 n 9 rfl).1]) (fun j => (sc 40 0 j rfl).2.2) (sc 11 0 11 rfl).1 (sc 11 0 12 rfl).1 (fun j => (sm 134 0 j rfl).1) (sm 12 0 32 rfl).1
  · exact g_cg R8 (fun j => (sc 26 0 j rfl).1) (fun j => (sc 27 0 j rfl).1) (sc 3 0 2 rfl).1 (fun k j a b => (sm k 0 j (by simp [w_Sm]; omega)).1) (sm 12 0 90 rfl).1
  · exact r_p_cg (fun k n j q => sc k n j (by simp [rpC] at q; simp [w_S]; omega)) (fun k n j q => (sm k n j (by simp [rpM] at q; simp [w_Sm]; omega)).1) R9
  · exact r_f_cg (fun k n j q => sc k n j (by simp [rpC] at q; simp [w_S]; omega)) (fun k n j q => (sm k n j (by simp [rpM] at q; simp [w_Sm]; omega)).1) R10
theorem n_div8 {x e : Int} (he : e = 0 ∨ e = 1) (h1 : 8 * e ≤ x) (h2 : x < 8 * e + 8) : j_div x 8 = e := by
  obtain ⟨n, rfl⟩ : ∃ n : Nat, x = (n : Int) := ⟨x.toNat, by omega⟩
  rw [show (8 : Int) = ((8 : Nat) : Int) from rfl, n_div (by omega) (by decide) (by decide)]
  omega
/-- a side gives the same in class and reference -/
theorem sd (hf : f_ok f) (R : relN f N B H c m) (Q : r_s N c m) (P : ps N c c1) {m1 : JM} (M : sma m m1) {i x e : Int} {o1 o2 : Option Int} (he : e = 0 ∨ e = 1) (h5 : m.1 135 0 (f i) = e) (hs : (o1 = some x ∧ o2 = none ∧ 8 * e ≤ x ∧ x < 8 * e + 8) ∨ (o1 = none ∧ o2 = some (16 * e + x - 100) ∧ 100 ≤ x ∧ x < 100 + N)) :
    HX m1 (f i) x ∧ g_c c1 i o1 o2 = g_m m1 (f i) x ∧ (∀ l, o1 = some l → -8191 ≤ c1.1 4 l 18 ∧ c1.1 4 l 18 ≤ 8191) := by
  have R1 : r_k N c m := R.1
  have R2 : r_l (-1) c m := R.2.1
  have la : d_la f c m := R.2.2.1.2.2.2.2.2.2.2.2.2.2.2.2.2.2.1
  have hN := R1.2.2.1
  have hN2 := R1.2.2.2.1
  have h51 : m1.1 135 0 (f i) = e := by rw [M.2 135 0 (f i) (by decide) (by decide)]; exact h5
  rcases hs with ⟨q1, q2, q3, q4⟩ | ⟨q1, q2, q3, q4⟩
  · have x0 : 0 ≤ x ∧ x < 16 := by omega
    have c18 : c1.1 4 x 18 = c.1 4 x 18 := P.2.1 4 x 18 rfl
    have c0 : c1.1 4 x 0 = x := by rw [P.2.1 4 x 0 rfl]; exact R1.2.2.2.2.2.2.2.2.2.2.2.1 x x0.1 x0.2
    have m130 : m1.1 130 0 x = c.1 4 x 18 := by rw [M.2 130 0 x (by decide) (by decide)]; exact (R2 x).2.2.2.2.2.2.2.2.2.2.2.1
    have m119 : m1.1 119 0 x = rf f (c.2.2 4 x 11) := by rw [M.2 119 0 x (by decide) (by decide)]; exact la x x0.1 x0.2
    have hq := Q.1 x x0.1 x0.2
    refine ⟨Or.inl ⟨x0.1, x0.2, by rw [m130]; omega, by rw [m130]; omega⟩, ?_, fun l z => ?_⟩
    · rw [q1]
      unfold g_c g_m
      rw [if_pos (by omega), m119, h51, m130]
      show (if c1.2.2 4 x 11 = some i then s_h (j_div (c1.1 4 x 0) 8) (c1.1 4 x 18) else 0) = _
      rw [P.1, c0, c18, n_div8 he q3 q4]
      by_cases y : c.2.2 4 x 11 = some i
      · rw [if_pos y, if_pos ((rf_eq hf _ i).mpr y)]
      · rw [if_neg y, if_neg (fun z => y ((rf_eq hf _ i).mp z))]
    · rw [q1] at z
      rw [← Option.some.inj z, c18]; omega
  · have e1 : 16 * (1 - e) + x - 100 = 16 * (1 - e) + (x - 100) := by omega
    obtain ⟨s1, n, s2, s3⟩ := Q.2 (1 - e) (x - 100) (by omega) (by omega) (by omega)
    have c5 := P.2.2 (1 - e) (x - 100) (by omega) (by omega) (by omega)
    have m184 : m1.1 184 0 (16 * (1 - e) + x - 100) = (n : Int) := by rw [M.2 184 0 _ (by decide) (by decide), e1, s1, s3]
    refine ⟨Or.inr ⟨q3, by omega, n, s2, by rw [h51]; exact m184⟩, ?_, fun l z => by rw [q1] at z; cases z⟩
    rw [q1, q2]
    unfold g_c g_m
    rw [if_neg (by omega), h51, m184]
    show s_b0 (c1.1 8 (if 16 * e + x - 100 < 16 then 16 * e + x - 100 + 16 else 16 * e + x - 100 - 16) 5) = _
    rw [show (if 16 * e + x - 100 < 16 then 16 * e + x - 100 + 16 else 16 * e + x - 100 - 16) = 16 * (1 - e) + (x - 100) by split <;> omega, c5, s3]
end SP
