/-! ===== what constructors make: the town ===== -/
def cN (a : Int) : Int := if 1 ≤ a then (if a ≤ 16 then a else 16) else 1
def cR (a b : Int) : Int := if 0 ≤ b then (if b ≤ cN a then b else cN a) else 0
theorem cN_r (a : Int) : 1 ≤ cN a ∧ cN a ≤ 16 := by unfold cN; split <;> (try split) <;> omega
theorem cR_r (a b : Int) : 0 ≤ cR a b ∧ cR a b ≤ cN a := by have := cN_r a; unfold cR; split <;> (try split) <;> omega
def PM (k : Nat) (n : Int) : Prop := ((k = 11 ∨ k = 1011 ∨ k = 1038 ∨ k = 39 ∨ k = 1039 ∨ k = 40 ∨ k = 1040 ∨ k = 38 ∨ k = 1003 ∨ k = 10 ∨ k = 1010 ∨ k = 36 ∨ k = 1036 ∨ k = 37 ∨ k = 1037) ∧ n = 0) ∨ ((k = 7 ∨ k = 1007 ∨ k = 34 ∨ k = 1034 ∨ k = 35 ∨ k = 1035) ∧ (n = 0 ∨ n = 1))
def PC (N : Int) (k : Nat) (n : Int) : Prop := PM k n ∨ P3 k n ∨ PX 0 N k n ∨ PX 1 N k n ∨ P231 16 k n ∨ P259 72 k n
/-- nothing is there but the script -/
def em (h : JM) : Prop := (∀ k n j, h.2.1 k n j = 0 ∧ h.2.2 k n j = none) ∧ (∀ k n j, k ≠ 99 → k ≠ 1099 → h.1 k n j = 0)
def CM (N r : Int) (h : JM) : Prop := (h.1 11 0 0 = N ∧ h.1 11 0 1 = r ∧ (∀ j, 2 ≤ j → h.1 11 0 j = 0) ∧ h.2.1 11 0 9 = 0) ∧ (h.2.2 11 0 2 = some 0 ∧ h.2.2 11 0 3 = some 0 ∧ h.2.2 11 0 4 = some 0 ∧ h.2.2 11 0 5 = some 0 ∧ h.2.2 11 0 6 = some 0 ∧ h.2.2 11 0 7 = some 1 ∧ h.2.2 11 0 8 = some 0) ∧ (h.1 1038 0 1 = 2 ∧ h.1 1039 0 1 = 16 ∧ h.1 1040 0 1 = 72 ∧ h.1 1036 0 1 = 256 ∧ h.1 1037 0 1 = 256 ∧ h.1 1026 0 1 = 16 ∧ h.1 1027 0 1 = 1500) ∧ (h.2.2 10 0 0 = some 0 ∧ h.2.2 10 0 4 = some 0 ∧ h.2.2 3 0 0 = some 0 ∧ h.2.2 3 0 1 = some 0) ∧ (∀ t, t = 0 ∨ t = 1 → (∀ j, h.1 7 t j = 0) ∧ h.2.2 7 t 0 = some t ∧ h.2.2 7 t 1 = some t ∧ h.1 1034 t 1 = 300 ∧ h.1 1035 t 1 = 300) ∧ (∀ j, h.1 3 0 j = 0) ∧ (∀ j, h.1 26 0 j = if j = 1 ∨ j = 5 ∨ j = 9 ∨ j = 13 then 100 else 0) ∧ (∀ j, h.1 27 0 j = 0)
section IF1
variable {N r : Int} {h h0 hC : JM}
/-- up to the exchanges -/
theorem i11a (a b : Int) (e0 : em h0) (eh : h = j_nw h0 11 0 0) : ∃ hD, F11_init a b h = F11_init_134 j_f0 0 hD ∧ fr (fun k n => PM k n ∨ P3 k n) h hD ∧ CM (cN a) (cR a b) hD := by
  have hz : ∀ k n j, k ≠ 99 → k ≠ 1099 → k ≠ 1011 → h.1 k n j = 0 := fun k n j a1 a2 a3 => by
    rw [eh, nN_I]
    by_cases q : k = 11 ∧ n = 0
    · rw [if_pos q]
    · rw [if_neg q, if_neg (fun y => a3 y.1)]; exact e0.2 k n j a1 a2
  have gz : ∀ k n, k ≠ 99 → k ≠ 1099 → k ≠ 1011 → h.1 k n 0 ≠ 1 := fun k n a1 a2 a3 => by rw [hz k n 0 a1 a2 a3]; decide
  obtain ⟨hB, ehB⟩ : ∃ hB, hB = (j_nw (sR (j_nw (sR (j_nw (sR (j_nw h 38 0 2) 11 0 2 (some 0)) 39 0 16) 11 0 3 (some 0)) 40 0 72) 11 0 4 (some 0)) 3 0 0) := ⟨_, rfl⟩
  have FB : fr (fun k n => PM k n ∨ P3 k n) h hB := by
    rw [ehB]
    exact fr_N (fr_R (fr_N (fr_R (fr_N (fr_R (fr_N (fr_rfl h) (Or.inl (by unfold PM; omega)) (Or.inl (by unfold PM; omega)) _) (Or.inl (by unfold PM; omega)) _ _) (Or.inl (by unfold PM; omega)) (Or.inl (by unfold PM; omega)) _) (Or.inl (by unfold PM; omega)) _ _) (Or.inl (by unfold PM; omega)) (Or.inl (by unfold PM; omega)) _) (Or.inl (by unfold PM; omega)) _ _) (Or.inr (by unfold P3; omega)) (Or.inl (by unfold PM; omega)) _
  have zB : ∀ k n, k = 1026 ∨ k = 1027 ∨ k = 1007 ∨ k = 1034 ∨ k = 1035 ∨ k = 1010 ∨ k = 1036 ∨ k = 1037 → hB.1 k n 0 ≠ 1 := fun k n hk => by
    have t : hB.1 k n 0 = h.1 k n 0 := by rw [ehB]; rcases hk with rfl | rfl | rfl | rfl | rfl | rfl | rfl | rfl <;> simp [rI_I, rI_L, rI_R, rL_I, rL_L, rL_R, rR_I, rR_L, rR_R, nN_I, nN_L, nN_R]
    rw [t]; exact gz k n (by omega) (by omega) (by omega)
  have b1 : ∀ j, hB.1 3 0 j = 0 := fun j => by rw [ehB]; simp [rI_I, rI_L, rI_R, rL_I, rL_L, rL_R, rR_I, rR_L, rR_R, nN_I, nN_L, nN_R]
  have b2 : hB.2.2 11 0 2 = some 0 ∧ hB.2.2 11 0 3 = some 0 ∧ hB.2.2 11 0 4 = some 0 := by rw [ehB]; simp [rI_I, rI_L, rI_R, rL_I, rL_L, rL_R, rR_I, rR_L, rR_R, nN_I, nN_L, nN_R]
  have b3 : hB.1 1038 0 1 = 2 ∧ hB.1 1039 0 1 = 16 ∧ hB.1 1040 0 1 = 72 := by rw [ehB]; simp [rI_I, rI_L, rI_R, rL_I, rL_L, rL_R, rR_I, rR_L, rR_R, nN_I, nN_L, nN_R]
  have b4 : ∀ j, hB.1 11 0 j = 0 := fun j => by
    have t : hB.1 11 0 j = h.1 11 0 j := by rw [ehB]; simp [rI_I, rI_L, rI_R, rL_I, rL_L, rL_R, rR_I, rR_L, rR_R, nN_I, nN_L, nN_R]
    rw [t]; exact hz 11 0 j (by omega) (by omega) (by omega)
  obtain ⟨hC, y1, y2, y3, y4, y5, y6, y7⟩ := i3 (h := hB) (zB 1026 0 (by omega)) (zB 1027 0 (by omega))
  obtain ⟨N, eN⟩ : ∃ N, N = cN a := ⟨_, rfl⟩
  obtain ⟨r, er⟩ : ∃ r, r = cR a b := ⟨_, rfl⟩
  have zC : ∀ k n, k = 1007 ∨ k = 1034 ∨ k = 1035 ∨ k = 1010 ∨ k = 1036 ∨ k = 1037 → hC.1 k n 0 ≠ 1 := fun k n hk => by
    rw [(y2 k n (by unfold P3; omega) 0).1]; exact zB k n (by omega)
  obtain ⟨hD, ehD⟩ : ∃ hD, hD = (sI (sI (sL (sR (sR (j_nw (sR (j_nw (j_nw (sR (sR (j_nw (sR (j_nw (j_nw (sR (sR (j_nw (sR (j_nw (j_nw (sR hC 11 0 5 (some 0)) 7 0 0) 34 0 300) 7 0 0 (some 0)) 35 0 300) 7 0 1 (some 0)) 11 0 6 (some 0)) 7 1 0) 34 1 300) 7 1 0 (some 1)) 35 1 300) 7 1 1 (some 1)) 11 0 7 (some 1)) 10 0 0) 36 0 256) 10 0 0 (some 0)) 37 0 256) 10 0 4 (some 0)) 11 0 8 (some 0)) 11 0 9 0) 11 0 0 N) 11 0 1 r) := ⟨_, rfl⟩
  have FD : fr PM hC hD := by
    rw [ehD]
    exact fr_I (fr_I (fr_L (fr_R (fr_R (fr_N (fr_R (fr_N (fr_N (fr_R (fr_R (fr_N (fr_R (fr_N (fr_N (fr_R (fr_R (fr_N (fr_R (fr_N (fr_N (fr_R (fr_rfl hC) (by unfold PM; omega) _ _) (by unfold PM; omega) (by unfold PM; omega) _) (by unfold PM; omega) (by unfold PM; omega) _) (by unfold PM; omega) _ _) (by unfold PM; omega) (by unfold PM; omega) _) (by unfold PM; omega) _ _) (by unfold PM; omega) _ _) (by unfold PM; omega) (by unfold PM; omega) _) (by unfold PM; omega) (by unfold PM; omega) _) (by unfold PM; omega) _ _) (by unfold PM; omega) (by unfold PM; omega) _) (by unfold PM; omega) _ _) (by unfold PM; omega) _ _) (by unfold PM; omega) (by unfold PM; omega) _) (by unfold PM; omega) (by unfold PM; omega) _) (by unfold PM; omega) _ _) (by unfold PM; omega) (by unfold PM; omega) _) (by unfold PM; omega) _ _) (by unfold PM; omega) _ _) (by unfold PM; omega) _ _) (by unfold PM; omega) _ _) (by unfold PM; omega) _ _
  have d11 : ∀ j, hD.1 11 0 j = if j = 1 then r else if j = 0 then N else hC.1 11 0 j := fun j => by rw [ehD]; simp [rI_I, rI_L, rI_R, rL_I, rL_L, rL_R, rR_I, rR_L, rR_R, nN_I, nN_L, nN_R]
  have dl : hD.2.1 11 0 9 = 0 := by rw [ehD]; simp [rI_I, rI_L, rI_R, rL_I, rL_L, rL_R, rR_I, rR_L, rR_R, nN_I, nN_L, nN_R]
  have dr : hD.2.2 11 0 2 = hC.2.2 11 0 2 ∧ hD.2.2 11 0 3 = hC.2.2 11 0 3 ∧ hD.2.2 11 0 4 = hC.2.2 11 0 4 ∧ hD.2.2 11 0 5 = some 0 ∧ hD.2.2 11 0 6 = some 0 ∧ hD.2.2 11 0 7 = some 1 ∧ hD.2.2 11 0 8 = some 0 := by rw [ehD]; simp [rI_I, rI_L, rI_R, rL_I, rL_L, rL_R, rR_I, rR_L, rR_R, nN_I, nN_L, nN_R]
  have dw : hD.1 1036 0 1 = 256 ∧ hD.1 1037 0 1 = 256 ∧ hD.2.2 10 0 0 = some 0 ∧ hD.2.2 10 0 4 = some 0 := by rw [ehD]; simp [rI_I, rI_L, rI_R, rL_I, rL_L, rL_R, rR_I, rR_L, rR_R, nN_I, nN_L, nN_R]
  have dt : ∀ t, t = 0 ∨ t = 1 → (∀ j, hD.1 7 t j = 0) ∧ hD.2.2 7 t 0 = some t ∧ hD.2.2 7 t 1 = some t ∧ hD.1 1034 t 1 = 300 ∧ hD.1 1035 t 1 = 300 := fun t ht => by
    rw [ehD]
    rcases ht with rfl | rfl <;> simp [rI_I, rI_L, rI_R, rL_I, rL_L, rL_R, rR_I, rR_L, rR_R, nN_I, nN_L, nN_R]
  have dx : ∀ k n j, k = 3 ∨ k = 26 ∨ k = 27 ∨ k = 1026 ∨ k = 1027 ∨ k = 1038 ∨ k = 1039 ∨ k = 1040 → hD.1 k n j = hC.1 k n j ∧ hD.2.2 k n j = hC.2.2 k n j := fun k n j hk => by
    rw [ehD]
    rcases hk with rfl | rfl | rfl | rfl | rfl | rfl | rfl | rfl <;> simp [rI_I, rI_L, rI_R, rL_I, rL_L, rL_R, rR_I, rR_L, rR_R, nN_I, nN_L, nN_R]
  have yo : ∀ k n j, ¬ P3 k n → hC.1 k n j = hB.1 k n j ∧ hC.2.2 k n j = hB.2.2 k n j := fun k n j p => ⟨(y2 k n p j).1, (y2 k n p j).2.2⟩
  refine ⟨hD, ?_, fr_tr FB (fr_tr (fr_mono (fun k n q => Or.inr q) y2) (fr_mono (fun k n q => Or.inl q) FD)), ⟨?_, ?_, ?_, dl⟩, ⟨?_, ?_, ?_, dr.2.2.2.1, dr.2.2.2.2.1, dr.2.2.2.2.2.1, dr.2.2.2.2.2.2⟩, ⟨?_, ?_, ?_, dw.1, dw.2.1, ?_, ?_⟩, ⟨dw.2.2.1, dw.2.2.2, ?_, ?_⟩, dt, ?_, ?_, ?_⟩
  · have k1 : ∀ n, (j_nw (sR hC 11 0 5 (some 0)) 7 0 0).1 1034 n 0 ≠ 1 ∧ (j_nw (sR hC 11 0 5 (some 0)) 7 0 0).1 1035 n 0 ≠ 1 := fun n => by
      have t1 : (j_nw (sR hC 11 0 5 (some 0)) 7 0 0).1 1034 n 0 = hC.1 1034 n 0 := by simp [rI_I, rI_L, rI_R, rL_I, rL_L, rL_R, rR_I, rR_L, rR_R, nN_I, nN_L, nN_R]
      have t2 : (j_nw (sR hC 11 0 5 (some 0)) 7 0 0).1 1035 n 0 = hC.1 1035 n 0 := by simp [rI_I, rI_L, rI_R, rL_I, rL_L, rL_R, rR_I, rR_L, rR_R, nN_I, nN_L, nN_R]
      rw [t1, t2]; exact ⟨zC 1034 n (by omega), zC 1035 n (by omega)⟩
    have k2 : (j_nw (sR (sR (j_nw (sR (j_nw (j_nw (sR hC 11 0 5 (some 0)) 7 0 0) 34 0 300) 7 0 0 (some 0)) 35 0 300) 7 0 1 (some 0)) 11 0 6 (some 0)) 7 1 0).1 1034 1 0 ≠ 1 ∧ (j_nw (sR (sR (j_nw (sR (j_nw (j_nw (sR hC 11 0 5 (some 0)) 7 0 0) 34 0 300) 7 0 0 (some 0)) 35 0 300) 7 0 1 (some 0)) 11 0 6 (some 0)) 7 1 0).1 1035 1 0 ≠ 1 := by
      have t1 : (j_nw (sR (sR (j_nw (sR (j_nw (j_nw (sR hC 11 0 5 (some 0)) 7 0 0) 34 0 300) 7 0 0 (some 0)) 35 0 300) 7 0 1 (some 0)) 11 0 6 (some 0)) 7 1 0).1 1034 1 0 = hC.1 1034 1 0 := by simp [rI_I, rI_L, rI_R, rL_I, rL_L, rL_R, rR_I, rR_L, rR_R, nN_I, nN_L, nN_R]
      have t2 : (j_nw (sR (sR (j_nw (sR (j_nw (j_nw (sR hC 11 0 5 (some 0)) 7 0 0) 34 0 300) 7 0 0 (some 0)) 35 0 300) 7 0 1 (some 0)) 11 0 6 (some 0)) 7 1 0).1 1035 1 0 = hC.1 1035 1 0 := by simp [rI_I, rI_L, rI_R, rL_I, rL_L, rL_R, rR_I, rR_L, rR_R, nN_I, nN_L, nN_R]
      rw [t1, t2]; exact ⟨zC 1034 1 (by omega), zC 1035 1 (by omega)⟩
    have k3 : (j_nw (sR (sR (j_nw (sR (j_nw (j_nw (sR (sR (j_nw (sR (j_nw (j_nw (sR hC 11 0 5 (some 0)) 7 0 0) 34 0 300) 7 0 0 (some 0)) 35 0 300) 7 0 1 (some 0)) 11 0 6 (some 0)) 7 1 0) 34 1 300) 7 1 0 (some 1)) 35 1 300) 7 1 1 (some 1)) 11 0 7 (some 1)) 10 0 0).1 1036 0 0 ≠ 1 ∧ (j_nw (sR (sR (j_nw (sR (j_nw (j_nw (sR (sR (j_nw (sR (j_nw (j_nw (sR hC 11 0 5 (some 0)) 7 0 0) 34 0 300) 7 0 0 (some 0)) 35 0 300) 7 0 1 (some 0)) 11 0 6 (some 0)) 7 1 0) 34 1 300) 7 1 0 (some 1)) 35 1 300) 7 1 1 (some 1)) 11 0 7 (some 1)) 10 0 0).1 1037 0 0 ≠ 1 := by
      have t1 : (j_nw (sR (sR (j_nw (sR (j_nw (j_nw (sR (sR (j_nw (sR (j_nw (j_nw (sR hC 11 0 5 (some 0)) 7 0 0) 34 0 300) 7 0 0 (some 0)) 35 0 300) 7 0 1 (some 0)) 11 0 6 (some 0)) 7 1 0) 34 1 300) 7 1 0 (some 1)) 35 1 300) 7 1 1 (some 1)) 11 0 7 (some 1)) 10 0 0).1 1036 0 0 = hC.1 1036 0 0 := by simp [rI_I, rI_L, rI_R, rL_I, rL_L, rL_R, rR_I, rR_L, rR_R, nN_I, nN_L, nN_R]
      have t2 : (j_nw (sR (sR (j_nw (sR (j_nw (j_nw (sR (sR (j_nw (sR (j_nw (j_nw (sR hC 11 0 5 (some 0)) 7 0 0) 34 0 300) 7 0 0 (some 0)) 35 0 300) 7 0 1 (some 0)) 11 0 6 (some 0)) 7 1 0) 34 1 300) 7 1 0 (some 1)) 35 1 300) 7 1 1 (some 1)) 11 0 7 (some 1)) 10 0 0).1 1037 0 0 = hC.1 1037 0 0 := by simp [rI_I, rI_L, rI_R, rL_I, rL_L, rL_R, rR_I, rR_L, rR_R, nN_I, nN_L, nN_R]
      rw [t1, t2]; exact ⟨zC 1036 0 (by omega), zC 1037 0 (by omega)⟩
    have k4 : ¬ (sR hC 11 0 5 (some 0)).1 1007 0 0 = 1 := by
      have t1 : (sR hC 11 0 5 (some 0)).1 1007 0 0 = hC.1 1007 0 0 := by simp [rI_I, rI_L, rI_R, rL_I, rL_L, rL_R, rR_I, rR_L, rR_R, nN_I, nN_L, nN_R]
      rw [t1]; exact zC 1007 0 (by omega)
    have k5 : ¬ (sR (sR (j_nw (sR (j_nw (j_nw (sR hC 11 0 5 (some 0)) 7 0 0) 34 0 300) 7 0 0 (some 0)) 35 0 300) 7 0 1 (some 0)) 11 0 6 (some 0)).1 1007 1 0 = 1 := by
      have t1 : (sR (sR (j_nw (sR (j_nw (j_nw (sR hC 11 0 5 (some 0)) 7 0 0) 34 0 300) 7 0 0 (some 0)) 35 0 300) 7 0 1 (some 0)) 11 0 6 (some 0)).1 1007 1 0 = hC.1 1007 1 0 := by simp [rI_I, rI_L, rI_R, rL_I, rL_L, rL_R, rR_I, rR_L, rR_R, nN_I, nN_L, nN_R]
      rw [t1]; exact zC 1007 1 (by omega)
    have k6 : ¬ (sR (sR (j_nw (sR (j_nw (j_nw (sR (sR (j_nw (sR (j_nw (j_nw (sR hC 11 0 5 (some 0)) 7 0 0) 34 0 300) 7 0 0 (some 0)) 35 0 300) 7 0 1 (some 0)) 11 0 6 (some 0)) 7 1 0) 34 1 300) 7 1 0 (some 1)) 35 1 300) 7 1 1 (some 1)) 11 0 7 (some 1)).1 1010 0 0 = 1 := by
      have t1 : (sR (sR (j_nw (sR (j_nw (j_nw (sR (sR (j_nw (sR (j_nw (j_nw (sR hC 11 0 5 (some 0)) 7 0 0) 34 0 300) 7 0 0 (some 0)) 35 0 300) 7 0 1 (some 0)) 11 0 6 (some 0)) 7 1 0) 34 1 300) 7 1 0 (some 1)) 35 1 300) 7 1 1 (some 1)) 11 0 7 (some 1)).1 1010 0 0 = hC.1 1010 0 0 := by simp [rI_I, rI_L, rI_R, rL_I, rL_L, rL_R, rR_I, rR_L, rR_R, nN_I, nN_L, nN_R]
      rw [t1]; exact zC 1010 0 (by omega)
    have lastN : ∀ (v : Int) (g : JM), v = N → F11_init_101 b (some 0) v g = F11_init_134 j_f0 0 (sI (sI g 11 0 0 N) 11 0 1 r) := fun v g ev => by
      subst ev
      unfold F11_init_101 F11_init_129
      rw [Option.bind_some, lt_d, rI_s, Option.bind_some, lt_d, Option.bind_some, lt_d, Option.bind_some, lt_d, er, eN]
      unfold cR
      by_cases z : 0 ≤ b
      · rw [if_pos z, if_pos z]
        by_cases y : b ≤ cN a
        · rw [if_pos y, if_pos y]
        · rw [if_neg y, if_neg y]
      · rw [if_neg z, if_neg z]
    have g3 : ¬ (sR (j_nw (sR (j_nw (sR (j_nw h 38 0 2) 11 0 2 (some 0)) 39 0 16) 11 0 3 (some 0)) 40 0 72) 11 0 4 (some 0)).1 1003 0 0 = 1 := by
      have t1 : (sR (j_nw (sR (j_nw (sR (j_nw h 38 0 2) 11 0 2 (some 0)) 39 0 16) 11 0 3 (some 0)) 40 0 72) 11 0 4 (some 0)).1 1003 0 0 = h.1 1003 0 0 := by simp [rI_I, rI_L, rI_R, rL_I, rL_L, rL_R, rR_I, rR_L, rR_R, nN_I, nN_L, nN_R]
      rw [t1]; exact gz 1003 0 (by omega) (by omega) (by omega)
    unfold F11_init
    rw [g_t (gz 1038 0 (by omega) (by omega) (by omega)), lt_d, lt_d, g_t (by simpa [rI_I, rI_L, rI_R, rL_I, rL_L, rL_R, rR_I, rR_L, rR_R, nN_I, nN_L, nN_R] using gz 1039 0 (by omega) (by omega) (by omega)), lt_d, lt_d, g_t (by simpa [rI_I, rI_L, rI_R, rL_I, rL_L, rL_R, rR_I, rR_L, rR_R, nN_I, nN_L, nN_R] using gz 1040 0 (by omega) (by omega) (by omega)), lt_d, lt_d, g_t g3, lt_d, ← ehB, y1, Option.bind_some, lt_d, g_t k4, lt_d, f7_i 0 (k1 0).1 (k1 0).2, Option.bind_some, lt_d, g_t k5, lt_d, f7_i 1 k2.1 k2.2, Option.bind_some, lt_d, g_t k6, lt_d, f10_i k3.1 k3.2, Option.bind_some, lt_d, lt_d, ehD]
    unfold cN at eN
    by_cases z : 1 ≤ a
    · rw [if_pos z] at eN ⊢
      by_cases y : a ≤ 16
      · rw [if_pos y] at eN ⊢; exact lastN a _ eN.symm
      · rw [if_neg y] at eN ⊢; exact lastN 16 _ eN.symm
    · rw [if_neg z] at eN ⊢; exact lastN 1 _ eN.symm
  · rw [d11, if_neg (by decide), if_pos rfl, eN]
  · rw [d11, if_pos rfl, er]
  · intro j hj; rw [d11, if_neg (by omega), if_neg (by omega), (yo 11 0 j (by unfold P3; omega)).1]; exact b4 j
  · rw [dr.1, (yo 11 0 2 (by unfold P3; omega)).2]; exact b2.1
  · rw [dr.2.1, (yo 11 0 3 (by unfold P3; omega)).2]; exact b2.2.1
  · rw [dr.2.2.1, (yo 11 0 4 (by unfold P3; omega)).2]; exact b2.2.2
  · rw [(dx 1038 0 1 (by omega)).1, (yo 1038 0 1 (by unfold P3; omega)).1]; exact b3.1
  · rw [(dx 1039 0 1 (by omega)).1, (yo 1039 0 1 (by unfold P3; omega)).1]; exact b3.2.1
  · rw [(dx 1040 0 1 (by omega)).1, (yo 1040 0 1 (by unfold P3; omega)).1]; exact b3.2.2
  · rw [(dx 1026 0 1 (by omega)).1]; exact y5.1
  · rw [(dx 1027 0 1 (by omega)).1]; exact y5.2
  · rw [(dx 3 0 0 (by omega)).2]; exact y4.1
  · rw [(dx 3 0 1 (by omega)).2]; exact y4.2
  · intro j; rw [(dx 3 0 j (by omega)).1, y3]; exact b1 j
  · intro j; rw [(dx 26 0 j (by omega)).1]; exact y6 j
  · intro j; rw [(dx 27 0 j (by omega)).1]; exact y7 j
end IF1
