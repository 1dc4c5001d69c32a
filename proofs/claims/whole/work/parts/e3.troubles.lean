/-! ===== setting: spoils and losses ===== -/
def tsx (m : JM) (A : List (Int × Int)) (a : Nat) : Prop := ∀ j : Nat, j < A.length → (m.1 176 0 ((a + j : Nat) : Int) = 0 ∨ m.1 176 0 ((a + j : Nat) : Int) = 1) ∧ 2 * m.1 177 0 ((a + j : Nat) : Int) + m.1 176 0 ((a + j : Nat) : Int) = (A.getD j (0, 0)).1 ∧ m.1 178 0 ((a + j : Nat) : Int) = (A.getD j (0, 0)).2
def tlx (m : JM) (A : List (Int × Int)) (a : Nat) : Prop := ∀ j : Nat, j < A.length → (m.1 180 0 ((a + j : Nat) : Int) = 0 ∨ m.1 180 0 ((a + j : Nat) : Int) = 1) ∧ 2 * m.1 181 0 ((a + j : Nat) : Int) + m.1 180 0 ((a + j : Nat) : Int) = (A.getD j (0, 0)).1 ∧ (A.getD j (0, 0)).2 = 0
def w_53 (k : Nat) (_ : Int) : Bool := k == 176 || k == 177 || k == 178
def w_40 (k : Nat) (_ : Int) : Bool := k == 180 || k == 181
theorem gd_l {A B : List (Int × Int)} {j : Nat} {d : Int × Int} (h : j < A.length) : (A ++ B).getD j d = A.getD j d := by
  rw [List.getD_eq_getElem?_getD, List.getD_eq_getElem?_getD, List.getElem?_append_left h]
theorem gd_r {A : List (Int × Int)} {p d : Int × Int} : (A ++ [p]).getD A.length d = p := by simp
theorem fc_k {cur : Int} {p : Int × Int} {Q : List (Int × Int)} (h : cur ≤ p.1) : fc cur (p :: Q) = p :: fc cur Q := List.filter_cons_of_pos (by simpa using h)
theorem fc_d {cur : Int} {p : Int × Int} {Q : List (Int × Int)} (h : ¬ cur ≤ p.1) : fc cur (p :: Q) = fc cur Q := List.filter_cons_of_neg (by simpa using h)
theorem fc_all {cur : Int} {Q : List (Int × Int)} (h : ∀ p ∈ Q, cur ≤ p.1) : fc cur Q = Q := List.filter_eq_self.2 (fun p hp => by simpa using h p hp)
theorem m_53 {e n k nw : Int} {L : Nat} (hL : L ≤ 300) : ∀ (Q : List (Int × Int)) (fu : Nat) (A : List (Int × Int)) (i : Nat) (h : JM), A.length ≤ i → i + Q.length = L → Q.length < fu → h.1 12 0 75 = (L : Int) → h.1 12 0 2 = nw → tsx h A 0 → tsx h Q i →
    ∃ h', F12_spoil_53 fu e n k (A.length : Int) (i : Int) h = F12_spoil_53b (fun _ _ _ _ _ _ => none) e n k ((A ++ fc (2 * nw) Q).length : Int) (L : Int) h' ∧ tsx h' (A ++ fc (2 * nw) Q) 0 ∧ so w_53 h h'
  | _, 0, _, _, _, _, _, q, _, _, _, _ => absurd q (Nat.not_lt_zero _)
  | [], fu + 1, A, i, h, a, b, _, d, g, t1, t2 => by
    have e0 : fc (2 * nw) [] = [] := rfl
    have ei : i = L := by simpa using b
    rw [e0, List.append_nil, ei]
    refine ⟨h, ?_, t1, so_rfl h⟩
    show F12_spoil_53b (F12_spoil_53 fu) e n k (A.length : Int) (L : Int) h = _
    unfold F12_spoil_53b
    rw [d, if_pos (Int.le_refl _), if_pos (Int.le_refl _)]
  | p :: Q, fu + 1, A, i, h, a, b, q, d, g, t1, t2 => by
    have b' : i + (Q.length + 1) = L := b
    have q' : Q.length + 1 < fu + 1 := q
    have w1 : w32 ((i : Int) + 1) = ((i + 1 : Nat) : Int) := by rw [w32_of (by omega) (by omega)]; rfl
    have w2 : w32 ((A.length : Int) + 1) = (((A ++ [p]).length : Nat) : Int) := by rw [w32_of (by omega) (by omega), List.length_append]; rfl
    have gi : (0 : Int) ≤ (i : Int) ∧ (i : Int) < 300 := by omega
    have ga : (0 : Int) ≤ (A.length : Int) ∧ (A.length : Int) < 300 := by omega
    have tp := t2 0 (Nat.succ_pos _)
    rw [show i + 0 = i from rfl, show (p :: Q).getD 0 (0, 0) = p from rfl] at tp
    have step : F12_spoil_53 (fu + 1) e n k (A.length : Int) (i : Int) h = F12_spoil_53b (F12_spoil_53 fu) e n k (A.length : Int) (i : Int) h := rfl
    rw [step]
    conv => enter [1, h', 1, 1]; unfold F12_spoil_53b F12_spoil_124
    rw [d, if_neg (show ¬ (L : Int) ≤ (i : Int) by omega), g_t gi, g]
    by_cases z : nw ≤ h.1 177 0 (i : Int)
    · have zp : 2 * nw ≤ p.1 := by omega
      have hd' : (sI (sI (sI h 176 0 (A.length : Int) (h.1 176 0 (i : Int))) 177 0 (A.length : Int) (h.1 177 0 (i : Int))) 178 0 (A.length : Int) (h.1 178 0 (i : Int))).1 12 0 75 = (L : Int) := by rw [rI_o (Or.inl (by decide))]; rw [rI_o (Or.inl (by decide))]; rw [rI_o (Or.inl (by decide))]; exact d
      have hg' : (sI (sI (sI h 176 0 (A.length : Int) (h.1 176 0 (i : Int))) 177 0 (A.length : Int) (h.1 177 0 (i : Int))) 178 0 (A.length : Int) (h.1 178 0 (i : Int))).1 12 0 2 = nw := by rw [rI_o (Or.inl (by decide))]; rw [rI_o (Or.inl (by decide))]; rw [rI_o (Or.inl (by decide))]; exact g
      have ta : tsx (sI (sI (sI h 176 0 (A.length : Int) (h.1 176 0 (i : Int))) 177 0 (A.length : Int) (h.1 177 0 (i : Int))) 178 0 (A.length : Int) (h.1 178 0 (i : Int))) (A ++ [p]) 0 := by
        intro j hj
        rw [List.length_append] at hj
        have hj2 : j < A.length + 1 := hj
        by_cases y : j = A.length
        · rw [y, gd_r, Nat.zero_add]
          simp only [rI_I]
          simpa using tp
        · rw [gd_l (by omega)]
          have hne : ((0 + j : Nat) : Int) ≠ (A.length : Int) := by omega
          have := t1 j (by omega)
          simp only [rI_o (Or.inr (Or.inr hne))]
          exact this
      have tb : tsx (sI (sI (sI h 176 0 (A.length : Int) (h.1 176 0 (i : Int))) 177 0 (A.length : Int) (h.1 177 0 (i : Int))) 178 0 (A.length : Int) (h.1 178 0 (i : Int))) Q (i + 1) := by
        intro j hj
        have hne : ((i + 1 + j : Nat) : Int) ≠ (A.length : Int) := by omega
        have t := t2 (j + 1) (Nat.succ_lt_succ hj)
        rw [show i + (j + 1) = i + 1 + j by omega, show (p :: Q).getD (j + 1) (0, 0) = Q.getD j (0, 0) from rfl] at t
        simp only [rI_o (Or.inr (Or.inr hne))]
        exact t
      obtain ⟨h', y1, y2, y3⟩ := m_53 (e := e) (n := n) (k := k) (nw := nw) hL Q fu (A ++ [p]) (i + 1) (sI (sI (sI h 176 0 (A.length : Int) (h.1 176 0 (i : Int))) 177 0 (A.length : Int) (h.1 177 0 (i : Int))) 178 0 (A.length : Int) (h.1 178 0 (i : Int))) (by rw [List.length_append]; show A.length + 1 ≤ i + 1; omega) (by omega) (by omega) hd' hg' ta tb
      rw [List.append_assoc, List.singleton_append, ← fc_k (Q := Q) zp] at y1 y2
      refine ⟨h', ?_, y2, so_tr (so_I (so_I (so_I (so_rfl h) rfl _ _) rfl _ _) rfl _ _) y3⟩
      rw [← y1, if_pos z, w1, w2]
      simp only [g_t gi, g_t ga, lt_d]
      have r1 : (sI h 176 0 (A.length : Int) (h.1 176 0 (i : Int))).1 177 0 (i : Int) = h.1 177 0 (i : Int) := by rw [rI_o (Or.inl (by decide))]
      rw [r1]
      have r2 : (sI (sI h 176 0 (A.length : Int) (h.1 176 0 (i : Int))) 177 0 (A.length : Int) (h.1 177 0 (i : Int))).1 178 0 (i : Int) = h.1 178 0 (i : Int) := by rw [rI_o (Or.inl (by decide))]; rw [rI_o (Or.inl (by decide))]
      rw [r2]
    · have zp : ¬ 2 * nw ≤ p.1 := by omega
      have tb : tsx h Q (i + 1) := by
        intro j hj
        have t := t2 (j + 1) (Nat.succ_lt_succ hj)
        rw [show i + (j + 1) = i + 1 + j by omega, show (p :: Q).getD (j + 1) (0, 0) = Q.getD j (0, 0) from rfl] at t
        exact t
      obtain ⟨h', y1, y2, y3⟩ := m_53 (e := e) (n := n) (k := k) (nw := nw) hL Q fu A (i + 1) h (by omega) (by omega) (by omega) d g t1 tb
      rw [← fc_d (Q := Q) zp] at y1 y2
      refine ⟨h', ?_, y2, y3⟩
      rw [← y1, if_neg z, w1]
theorem m_40 {e n nw : Int} {L : Nat} (hL : L ≤ 300) : ∀ (Q : List (Int × Int)) (fu : Nat) (A : List (Int × Int)) (i : Nat) (h : JM), A.length ≤ i → i + Q.length = L → Q.length < fu → h.1 12 0 79 = (L : Int) → h.1 12 0 2 = nw → tlx h A 0 → tlx h Q i →
    ∃ h', F12_lose_40 fu e n (A.length : Int) (i : Int) h = F12_lose_40b (fun _ _ _ _ _ => none) e n ((A ++ fc (2 * nw) Q).length : Int) (L : Int) h' ∧ tlx h' (A ++ fc (2 * nw) Q) 0 ∧ so w_40 h h'
  | _, 0, _, _, _, _, _, q, _, _, _, _ => absurd q (Nat.not_lt_zero _)
  | [], fu + 1, A, i, h, a, b, _, d, g, t1, t2 => by
    have e0 : fc (2 * nw) [] = [] := rfl
    have ei : i = L := by simpa using b
    rw [e0, List.append_nil, ei]
    refine ⟨h, ?_, t1, so_rfl h⟩
    show F12_lose_40b (F12_lose_40 fu) e n (A.length : Int) (L : Int) h = _
    unfold F12_lose_40b
    rw [d, if_pos (Int.le_refl _), if_pos (Int.le_refl _)]
  | p :: Q, fu + 1, A, i, h, a, b, q, d, g, t1, t2 => by
    have b' : i + (Q.length + 1) = L := b
    have q' : Q.length + 1 < fu + 1 := q
    have w1 : w32 ((i : Int) + 1) = ((i + 1 : Nat) : Int) := by rw [w32_of (by omega) (by omega)]; rfl
    have w2 : w32 ((A.length : Int) + 1) = (((A ++ [p]).length : Nat) : Int) := by rw [w32_of (by omega) (by omega), List.length_append]; rfl
    have gi : (0 : Int) ≤ (i : Int) ∧ (i : Int) < 300 := by omega
    have ga : (0 : Int) ≤ (A.length : Int) ∧ (A.length : Int) < 300 := by omega
    have tp := t2 0 (Nat.succ_pos _)
    rw [show i + 0 = i from rfl, show (p :: Q).getD 0 (0, 0) = p from rfl] at tp
    have step : F12_lose_40 (fu + 1) e n (A.length : Int) (i : Int) h = F12_lose_40b (F12_lose_40 fu) e n (A.length : Int) (i : Int) h := rfl
    rw [step]
    conv => enter [1, h', 1, 1]; unfold F12_lose_40b F12_lose_95
    rw [d, if_neg (show ¬ (L : Int) ≤ (i : Int) by omega), g_t gi, g]
    by_cases z : nw ≤ h.1 181 0 (i : Int)
    · have zp : 2 * nw ≤ p.1 := by omega
      have hd' : (sI (sI h 180 0 (A.length : Int) (h.1 180 0 (i : Int))) 181 0 (A.length : Int) (h.1 181 0 (i : Int))).1 12 0 79 = (L : Int) := by rw [rI_o (Or.inl (by decide))]; rw [rI_o (Or.inl (by decide))]; exact d
      have hg' : (sI (sI h 180 0 (A.length : Int) (h.1 180 0 (i : Int))) 181 0 (A.length : Int) (h.1 181 0 (i : Int))).1 12 0 2 = nw := by rw [rI_o (Or.inl (by decide))]; rw [rI_o (Or.inl (by decide))]; exact g
      have ta : tlx (sI (sI h 180 0 (A.length : Int) (h.1 180 0 (i : Int))) 181 0 (A.length : Int) (h.1 181 0 (i : Int))) (A ++ [p]) 0 := by
        intro j hj
        rw [List.length_append] at hj
        have hj2 : j < A.length + 1 := hj
        by_cases y : j = A.length
        · rw [y, gd_r, Nat.zero_add]
          simp only [rI_I]
          simpa using tp
        · rw [gd_l (by omega)]
          have hne : ((0 + j : Nat) : Int) ≠ (A.length : Int) := by omega
          have := t1 j (by omega)
          simp only [rI_o (Or.inr (Or.inr hne))]
          exact this
      have tb : tlx (sI (sI h 180 0 (A.length : Int) (h.1 180 0 (i : Int))) 181 0 (A.length : Int) (h.1 181 0 (i : Int))) Q (i + 1) := by
        intro j hj
        have hne : ((i + 1 + j : Nat) : Int) ≠ (A.length : Int) := by omega
        have t := t2 (j + 1) (Nat.succ_lt_succ hj)
        rw [show i + (j + 1) = i + 1 + j by omega, show (p :: Q).getD (j + 1) (0, 0) = Q.getD j (0, 0) from rfl] at t
        simp only [rI_o (Or.inr (Or.inr hne))]
        exact t
      obtain ⟨h', y1, y2, y3⟩ := m_40 (e := e) (n := n) (nw := nw) hL Q fu (A ++ [p]) (i + 1) (sI (sI h 180 0 (A.length : Int) (h.1 180 0 (i : Int))) 181 0 (A.length : Int) (h.1 181 0 (i : Int))) (by rw [List.length_append]; show A.length + 1 ≤ i + 1; omega) (by omega) (by omega) hd' hg' ta tb
      rw [List.append_assoc, List.singleton_append, ← fc_k (Q := Q) zp] at y1 y2
      refine ⟨h', ?_, y2, so_tr (so_I (so_I (so_rfl h) rfl _ _) rfl _ _) y3⟩
      rw [← y1, if_pos z, w1, w2]
      simp only [g_t gi, g_t ga, lt_d]
      have r1 : (sI h 180 0 (A.length : Int) (h.1 180 0 (i : Int))).1 181 0 (i : Int) = h.1 181 0 (i : Int) := by rw [rI_o (Or.inl (by decide))]
      rw [r1]
    · have zp : ¬ 2 * nw ≤ p.1 := by omega
      have tb : tlx h Q (i + 1) := by
        intro j hj
        have t := t2 (j + 1) (Nat.succ_lt_succ hj)
        rw [show i + (j + 1) = i + 1 + j by omega, show (p :: Q).getD (j + 1) (0, 0) = Q.getD j (0, 0) from rfl] at t
        exact t
      obtain ⟨h', y1, y2, y3⟩ := m_40 (e := e) (n := n) (nw := nw) hL Q fu A (i + 1) h (by omega) (by omega) (by omega) d g t1 tb
      rw [← fc_d (Q := Q) zp] at y1 y2
      refine ⟨h', ?_, y2, y3⟩
      rw [← y1, if_neg z, w1]
theorem f_add42 {t k x : Int} {C : List (Int × Int)} {c : JM} (hC : C.length < 300) (h2 : c.1 7 t 2 = (C.length : Int)) : F7_add_42 t k x c = some ((C.length : Int) + 1, sI (sI (sI c 34 t (C.length : Int) x) 35 t (C.length : Int) k) 7 t 2 ((C.length : Int) + 1)) := by
  have g : (0 : Int) ≤ (C.length : Int) ∧ (C.length : Int) < 300 := by omega
  have w1 : w32 ((C.length : Int) + 1) = (C.length : Int) + 1 := w32_of (by omega) (by omega)
  have k1 : (sI c 34 t (C.length : Int) x).1 7 t 2 = (C.length : Int) := by rw [rI_o (Or.inl (by decide)), h2]
  have k2 : (sI (sI c 34 t (C.length : Int) x) 35 t (C.length : Int) k).1 7 t 2 = (C.length : Int) := by rw [rI_o (Or.inl (by decide)), k1]
  unfold F7_add_42
  rw [h2, g_t g, lt_d, k1, g_t g, lt_d, k2, w1, lt_d, rI_s]
theorem f_add {t e n k : Int} {C : List (Int × Int)} {c : JM} (he : e = 0 ∨ e = 1) (hn : 0 ≤ n ∧ n ≤ 20000000) (T : tc c t C) :
    (C.length = 300 ∧ F7_add t e n k c = some (-3, c)) ∨ (C.length < 300 ∧ ∃ c', F7_add t e n k c = some ((C.length : Int) + 1, c') ∧ tc c' t (C ++ [(2 * n + e, k)]) ∧ so w_sp c c' ∧ ∀ k' t' j, t' ≠ t → c'.1 k' t' j = c.1 k' t' j) := by
  obtain ⟨T1, T2, T3, T4, T5⟩ := T
  by_cases z : C.length < 300
  · refine Or.inr ⟨z, ?_⟩
    have w : w32 (w32 (2 * n) + e) = 2 * n + e := by rw [w32_of (x := 2 * n) (by omega) (by omega), w32_of (by omega) (by omega)]
    have hh : ∃ c0, F7_add t e n k c = F7_add_42 t k (2 * n + e) c0 ∧ (∀ k' n' j, k' ≠ 7 ∨ n' ≠ t ∨ j ≠ 3 → c0.1 k' n' j = c.1 k' n' j) ∧ c0.2 = c.2 ∧ c0.1 7 t 3 ≤ 2 * n + e ∧ (∀ p ∈ C, c0.1 7 t 3 ≤ p.1) ∧ (c0.1 7 t 3 = 2 * n + e ∨ ∃ p ∈ C, p.1 = c0.1 7 t 3) := by
      have hs : (∀ p ∈ C, 2 * n + e ≤ p.1) → ∃ c0, F7_add_36 t k (2 * n + e) c = F7_add_42 t k (2 * n + e) c0 ∧ (∀ k' n' j, k' ≠ 7 ∨ n' ≠ t ∨ j ≠ 3 → c0.1 k' n' j = c.1 k' n' j) ∧ c0.2 = c.2 ∧ c0.1 7 t 3 ≤ 2 * n + e ∧ (∀ p ∈ C, c0.1 7 t 3 ≤ p.1) ∧ (c0.1 7 t 3 = 2 * n + e ∨ ∃ p ∈ C, p.1 = c0.1 7 t 3) := fun hp => by
        refine ⟨sI c 7 t 3 (2 * n + e), ?_, fun k' n' j q => rI_o q, rfl, ?_, ?_, ?_⟩
        · unfold F7_add_36; rw [lt_d]
        · rw [rI_s]; exact Int.le_refl _
        · rw [rI_s]; exact hp
        · rw [rI_s]; exact Or.inl rfl
      unfold F7_add
      rw [T1, w, if_pos (by omega), lt_d]
      by_cases y : C.length = 0
      · have : C = [] := List.length_eq_zero_iff.1 y
        rw [if_pos (by omega)]
        exact hs (by rw [this]; intro p hp; cases hp)
      · rw [if_neg (by omega)]
        have cne : C ≠ [] := fun q => y (by rw [q]; rfl)
        by_cases y2 : c.1 7 t 3 ≤ 2 * n + e
        · rw [if_pos y2]
          exact ⟨c, rfl, fun _ _ _ _ => rfl, rfl, y2, T4, Or.inr (T5 cne)⟩
        · rw [if_neg y2]
          exact hs (fun p hp => by have := T4 p hp; omega)
    obtain ⟨c0, y1, y2, y3, y4, y5, y6⟩ := hh
    have e2 : c0.1 7 t 2 = (C.length : Int) := by rw [y2 7 t 2 (Or.inr (Or.inr (by decide))), T1]
    refine ⟨_, by rw [y1, f_add42 z e2], ⟨?_, ?_, ?_, ?_, ?_⟩, ?_, ?_⟩
    · rw [rI_s, List.length_append]; rfl
    · rw [List.length_append]; show C.length + 1 ≤ 300; omega
    · intro j hj
      rw [List.length_append] at hj
      have hj2 : j < C.length + 1 := hj
      have r34 : ∀ v, (sI (sI (sI c0 34 t (C.length : Int) (2 * n + e)) 35 t (C.length : Int) k) 7 t 2 v).1 34 t (j : Int) = (sI c0 34 t (C.length : Int) (2 * n + e)).1 34 t (j : Int) := fun v => by rw [rI_o (Or.inl (by decide)), rI_o (Or.inl (by decide))]
      have r35 : ∀ v, (sI (sI (sI c0 34 t (C.length : Int) (2 * n + e)) 35 t (C.length : Int) k) 7 t 2 v).1 35 t (j : Int) = (sI (sI c0 34 t (C.length : Int) (2 * n + e)) 35 t (C.length : Int) k).1 35 t (j : Int) := fun v => by rw [rI_o (Or.inl (by decide))]
      rw [r34, r35]
      by_cases y : j = C.length
      · rw [y, gd_r, rI_s, rI_s]; exact ⟨rfl, rfl⟩
      · have hne : (j : Int) ≠ (C.length : Int) := by omega
        rw [gd_l (by omega), rI_o (Or.inr (Or.inr hne)), rI_o (Or.inr (Or.inr hne)), rI_o (Or.inl (by decide)), y2 _ _ _ (Or.inl (by decide)), y2 _ _ _ (Or.inl (by decide))]
        exact T3 j (by omega)
    · intro p hp
      rw [rI_o (Or.inr (Or.inr (by decide))), rI_o (Or.inl (by decide)), rI_o (Or.inl (by decide))]
      rcases List.mem_append.1 hp with q | q
      · exact y5 p q
      · rw [List.mem_singleton.1 q]; exact y4
    · intro _
      rw [rI_o (Or.inr (Or.inr (by decide))), rI_o (Or.inl (by decide)), rI_o (Or.inl (by decide))]
      rcases y6 with q | ⟨p, q1, q2⟩
      · exact ⟨_, List.mem_append_right _ (List.mem_singleton_self _), q.symm⟩
      · exact ⟨p, List.mem_append_left _ q1, q2⟩
    · refine so_I (so_I (so_I ?_ (by simp [w_sp]) _ _) (by simp [w_sp]) _ _) (by simp [w_sp]) _ _
      intro k' n' j q
      exact ⟨y2 k' n' j (Or.inl (fun w => by rw [w] at q; simp [w_sp] at q)), by rw [y3], by rw [y3]⟩
    · intro k' t' j q
      rw [rI_o (Or.inr (Or.inl q)), rI_o (Or.inr (Or.inl q)), rI_o (Or.inr (Or.inl q)), y2 _ _ _ (Or.inr (Or.inl q))]
  · refine Or.inl ⟨by omega, ?_⟩
    unfold F7_add
    rw [T1, if_neg (by omega)]
