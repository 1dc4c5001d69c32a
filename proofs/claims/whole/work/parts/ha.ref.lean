/-! ===== what constructors make: the reference, whole ===== -/
def PR (k : Nat) (n : Int) : Prop := n = 0 ∧ (k = 12 ∨ k = 1012 ∨ ∃ x ∈ m_ar, k = x.1 ∨ k = x.2.1)
def mv (k : Nat) (n j : Int) : Int := if n = 0 ∧ (k = 165 ∨ k = 166) ∧ (j = 0 ∨ j = 1) then 1 else if n = 0 ∧ k = 187 ∧ 0 ≤ j ∧ j < 4 then 100 else if n = 0 ∧ k = 133 ∧ 0 ≤ j ∧ j < 80 then -1 else if n = 0 ∧ k = 155 ∧ 0 ≤ j ∧ j < 32 then -1 else if n = 0 ∧ k = 184 ∧ 0 ≤ j ∧ j < 32 then 213 else if n = 0 ∧ (k = 119 ∨ k = 120 ∨ k = 121 ∨ k = 126) ∧ 0 ≤ j ∧ j < 16 then -1 else 0
theorem pr_k {k : Nat} {n : Int} (q : PR k n) : n = 0 ∧ (k = 12 ∨ k = 1012 ∨ (100 ≤ k ∧ k < 200) ∨ (1100 ≤ k ∧ k < 1200)) := by
  refine ⟨q.1, ?_⟩
  rcases q.2 with q | q | ⟨x, hx, q⟩
  · exact Or.inl q
  · exact Or.inr (Or.inl q)
  · have := m_lok.1 x hx; omega
theorem pr_in {k : Nat} (hk : k = 119 ∨ k = 120 ∨ k = 121 ∨ k = 126 ∨ k = 155 ∨ k = 184 ∨ k = 133 ∨ k = 187 ∨ k = 165 ∨ k = 166) : PR k 0 := by
  refine ⟨rfl, Or.inr (Or.inr ?_)⟩
  rcases hk with rfl | rfl | rfl | rfl | rfl | rfl | rfl | rfl | rfl | rfl
  · exact ⟨(119, 1119, 16, 19), by decide +kernel, Or.inl rfl⟩
  · exact ⟨(120, 1120, 16, 20), by decide +kernel, Or.inl rfl⟩
  · exact ⟨(121, 1121, 16, 21), by decide +kernel, Or.inl rfl⟩
  · exact ⟨(126, 1126, 16, 26), by decide +kernel, Or.inl rfl⟩
  · exact ⟨(155, 1155, 32, 55), by decide +kernel, Or.inl rfl⟩
  · exact ⟨(184, 1184, 32, 84), by decide +kernel, Or.inl rfl⟩
  · exact ⟨(133, 1133, 80, 33), by decide +kernel, Or.inl rfl⟩
  · exact ⟨(187, 1187, 4, 87), by decide +kernel, Or.inl rfl⟩
  · exact ⟨(165, 1165, 2, 65), by decide +kernel, Or.inl rfl⟩
  · exact ⟨(166, 1166, 2, 66), by decide +kernel, Or.inl rfl⟩
section II
variable {c : JM}
theorem i12 (a b : Int) (z1 : ∀ k n j, 100 ≤ k → k < 200 → c.1 k n j = 0) (z2 : ∀ k n, 1100 ≤ k → k < 1200 → c.1 k n 0 = 0) : ∃ m, F12_init a b (j_nw c 12 0 0) = some m ∧ fr PR c m ∧ (m.1 12 0 0 = cN a ∧ m.1 12 0 1 = cR a b ∧ ∀ j, 2 ≤ j → m.1 12 0 j = 0) ∧ MA m ∧ (∀ k n j, 100 ≤ k → k < 200 → m.1 k n j = mv k n j) := by
  obtain ⟨h, eh⟩ : ∃ h, h = j_nw c 12 0 0 := ⟨_, rfl⟩
  have F0 : fr PR c h := by rw [eh]; exact fr_N (fr_rfl c) ⟨rfl, Or.inl rfl⟩ ⟨rfl, Or.inr (Or.inl rfl)⟩ _
  obtain ⟨hA, eA⟩ : ∃ hA, hA = am m_ar h := ⟨_, rfl⟩
  have FA : fr PR h hA := by
    rw [eA]
    refine fr_mono (fun k n q => ⟨q.1, ?_⟩) (am_fr m_ar h m_lok)
    rcases q.2 with q | q
    · exact Or.inl q
    · exact Or.inr (Or.inr q)
  have zA : ∀ k n j, 100 ≤ k → k < 200 → hA.1 k n j = 0 := fun k n j k0 k1 => by
    rw [eA]
    refine am_z (by omega) m_ar h ?_
    rw [eh, nwI (Or.inl (by omega)) (Or.inl (by omega))]; exact z1 k n j k0 k1
  have z12 : ∀ j, hA.1 12 0 j = 0 := fun j => by
    rw [eA]
    refine am_z (by omega) m_ar h ?_
    rw [eh]; exact nw_I c 12 0 0 j
  have MAA : MA hA := by rw [eA]; exact am_r m_ar h m_lok
  have G : F12_init a b h = (fun h => if 1 ≤ a then (if a ≤ 16 then F12_init_678 b (some 0) a h else F12_init_678 b (some 0) 16 h) else F12_init_678 b (some 0) 1 h) hA := by
    rw [eA, f12_pr]
    exact prg_ok m_ar h m_lok (fun x hx => by
      have t := m_lok.1 x hx
      rw [eh, nwI (Or.inl (by omega)) (Or.inl (by omega)), z2 x.2.1 0 (by omega) (by omega)]; decide)
  obtain ⟨N, eN⟩ : ∃ N, N = cN a := ⟨_, rfl⟩
  obtain ⟨r, er⟩ : ∃ r, r = cR a b := ⟨_, rfl⟩
  obtain ⟨hB, eB⟩ : ∃ hB, hB = sI (sI hA 12 0 0 N) 12 0 1 r := ⟨_, rfl⟩
  have FB : fr PR hA hB := by rw [eB]; exact fr_I (fr_I (fr_rfl hA) ⟨rfl, Or.inl rfl⟩ _ _) ⟨rfl, Or.inl rfl⟩ _ _
  have G2 : F12_init a b h = F12_init_711 j_f0 0 hB := by
    rw [G, eB]
    dsimp only
    have lastN : ∀ v : Int, v = N → F12_init_678 b (some 0) v hA = F12_init_711 j_f0 0 (sI (sI hA 12 0 0 N) 12 0 1 r) := fun v ev => by
      subst ev
      unfold F12_init_678 F12_init_706
      rw [Option.bind_some, lt_d, rI_s, Option.bind_some, lt_d, Option.bind_some, lt_d, Option.bind_some, lt_d, er, eN]
      unfold cR
      by_cases z : 0 ≤ b
      · rw [if_pos z, if_pos z]
        by_cases y : b ≤ cN a
        · rw [if_pos y, if_pos y]
        · rw [if_neg y, if_neg y]
      · rw [if_neg z, if_neg z]
    unfold cN at eN
    by_cases z : 1 ≤ a
    · rw [if_pos z] at eN ⊢
      by_cases y : a ≤ 16
      · rw [if_pos y] at eN ⊢; exact lastN a eN.symm
      · rw [if_neg y] at eN ⊢; exact lastN 16 eN.symm
    · rw [if_neg z] at eN ⊢; exact lastN 1 eN.symm
  have MB : MA hB := ma_cg (by rw [eB]; rfl) (fun k n j hk => by rw [eB, rI_o (Or.inl (by omega)), rI_o (Or.inl (by omega))]) MAA
  obtain ⟨h1, a1, a2, a3⟩ := i711 MB
  have M1 : MA h1 := ma_cg a2 (fun k n j hk => by rw [a3, if_neg (by omega)]) MB
  obtain ⟨h2, b1, b2, b3⟩ := i753 M1
  have M2 : MA h2 := ma_cg b2 (fun k n j hk => by rw [b3, if_neg (by omega), if_neg (by omega)]) M1
  obtain ⟨h3, c1, c2, c3⟩ := i785 M2
  have M3 : MA h3 := ma_cg c2 (fun k n j hk => by rw [c3, if_neg (by omega)]) M2
  obtain ⟨h4, d1, d2, d3⟩ := i806 M3
  have M4 : MA h4 := ma_cg d2 (fun k n j hk => by rw [d3, if_neg (by omega), if_neg (by omega)]) M3
  have e2 : h4.2 = hB.2 := by rw [d2, c2, b2, a2]
  have e1 : ∀ k n j, n ≠ 0 ∨ ¬ (k = 119 ∨ k = 120 ∨ k = 121 ∨ k = 126 ∨ k = 155 ∨ k = 184 ∨ k = 133 ∨ k = 187 ∨ k = 165 ∨ k = 166) → h4.1 k n j = hB.1 k n j := fun k n j q => by
    rw [d3, if_neg (by omega), if_neg (by omega), c3, if_neg (by omega), b3, if_neg (by omega), if_neg (by omega), a3, if_neg (by omega)]
  have FZ : fr PR hB h4 := fun k n p j => ⟨e1 k n j (by
    by_cases t : n = 0
    · subst t; exact Or.inr (fun y => p (pr_in y))
    · exact Or.inl t), by rw [e2], by rw [e2]⟩
  refine ⟨h4, ?_, fr_tr F0 (fr_tr FA (fr_tr FB FZ)), ⟨?_, ?_, ?_⟩, M4, ?_⟩
  · rw [← eh, G2, a1, b1, c1, d1]
  · rw [e1 12 0 0 (by omega), eB, rI_o (Or.inr (Or.inr (by decide))), rI_s, eN]
  · rw [e1 12 0 1 (by omega), eB, rI_s, er]
  · intro j hj; rw [e1 12 0 j (by omega), eB, rI_o (Or.inr (Or.inr (by omega))), rI_o (Or.inr (Or.inr (by omega)))]; exact z12 j
  · intro k n j k0 k1
    rw [d3, c3, b3, a3, eB, rI_o (Or.inl (by omega)), rI_o (Or.inl (by omega)), zA k n j k0 k1]
    rfl
end II
