/-! ===== what constructors make: the reference ===== -/
def MA (h : JM) : Prop := ∀ x ∈ m_ar, h.2.2 12 0 x.2.2.2 = some 0 ∧ h.1 x.2.1 0 1 = x.2.2.1
section IH
variable {h hs : JM}
theorem ma_cg {a b : JM} (h2 : b.2 = a.2) (h1 : ∀ k n j, 1000 ≤ k → b.1 k n j = a.1 k n j) (q : MA a) : MA b := fun x hx => by
  have t := m_lok.1 x hx
  rw [h2, h1 x.2.1 0 1 (by omega)]; exact q x hx
theorem i711 (q0 : MA hs) : ∃ h', F12_init_711 j_f0 0 hs = F12_init_753 j_f0 0 h' ∧ h'.2 = hs.2 ∧ ∀ k n j, h'.1 k n j = if n = 0 ∧ (k = 119 ∨ k = 120 ∨ k = 121 ∨ k = 126) ∧ 0 ≤ j ∧ j < 16 then -1 else hs.1 k n j := by
  have T := gl (L := fun n i h => F12_init_711 n i h) (M := 16) (E := fun h => F12_init_753 j_f0 0 h) (I := fun i g => g.2 = hs.2 ∧ ∀ k n j, g.1 k n j = if n = 0 ∧ (k = 119 ∨ k = 120 ∨ k = 121 ∨ k = 126) ∧ 0 ≤ j ∧ j < i then -1 else hs.1 k n j) (fun n g I => by
    show F12_init_711b (F12_init_711 n) 16 g = _
    unfold F12_init_711b
    rw [if_pos (by omega)]) (fun n u g i0 i1 I => by
    obtain ⟨I1, I2⟩ := I
    have q : MA g := ma_cg I1 (fun k n j hk => by rw [I2, if_neg (by omega)]) q0
    have r119 : g.2.2 12 0 19 = some 0 := (q (119, 1119, 16, 19) (by decide +kernel)).1
    have l119 : g.1 1119 0 1 = 16 := (q (119, 1119, 16, 19) (by decide +kernel)).2
    have r120 : g.2.2 12 0 20 = some 0 := (q (120, 1120, 16, 20) (by decide +kernel)).1
    have l120 : g.1 1120 0 1 = 16 := (q (120, 1120, 16, 20) (by decide +kernel)).2
    have r121 : g.2.2 12 0 21 = some 0 := (q (121, 1121, 16, 21) (by decide +kernel)).1
    have l121 : g.1 1121 0 1 = 16 := (q (121, 1121, 16, 21) (by decide +kernel)).2
    have r126 : g.2.2 12 0 26 = some 0 := (q (126, 1126, 16, 26) (by decide +kernel)).1
    have l126 : g.1 1126 0 1 = 16 := (q (126, 1126, 16, 26) (by decide +kernel)).2
    have a1 : (sI g 119 0 u (-1)).1 1120 0 1 = 16 := by rw [rI_o (Or.inl (by decide)), l120]
    have a2 : (sI (sI g 119 0 u (-1)) 120 0 u (-1)).1 1121 0 1 = 16 := by rw [rI_o (Or.inl (by decide)), rI_o (Or.inl (by decide)), l121]
    have a3 : (sI (sI (sI g 119 0 u (-1)) 120 0 u (-1)) 121 0 u (-1)).1 1126 0 1 = 16 := by rw [rI_o (Or.inl (by decide)), rI_o (Or.inl (by decide)), rI_o (Or.inl (by decide)), l126]
    refine ⟨sI (sI (sI (sI g 119 0 u (-1)) 120 0 u (-1)) 121 0 u (-1)) 126 0 u (-1), ?_, I1, ?_⟩
    · show F12_init_711b (F12_init_711 n) u g = _
      unfold F12_init_711b
      rw [if_neg (by omega), r119, Option.bind_some, l119, g_t (by omega), lt_d, rI_R, r120, Option.bind_some, a1, g_t (by omega), lt_d, rI_R, rI_R, r121, Option.bind_some, a2, g_t (by omega), lt_d, rI_R, rI_R, rI_R, r126, Option.bind_some, a3, g_t (by omega), lt_d, w32_of (by omega) (by omega)]
    · intro k n' j
      by_cases z : n' = 0 ∧ (k = 119 ∨ k = 120 ∨ k = 121 ∨ k = 126) ∧ j = u
      · obtain ⟨z1, z2, z3⟩ := z
        subst z1; subst z3
        rw [if_pos (by omega)]
        rcases z2 with rfl | rfl | rfl | rfl <;> simp [rI_I]
      · rw [rI_o (by omega), rI_o (by omega), rI_o (by omega), rI_o (by omega), I2]
        by_cases y : n' = 0 ∧ (k = 119 ∨ k = 120 ∨ k = 121 ∨ k = 126) ∧ 0 ≤ j ∧ j < u
        · rw [if_pos y, if_pos (by omega)]
        · rw [if_neg y, if_neg (by omega)]) 16 j_f0 0 hs (by omega) (by omega) (by unfold j_f0; omega) ⟨rfl, fun k n j => by rw [if_neg (by omega)]⟩
  obtain ⟨h', e1, e2, e3⟩ := T
  exact ⟨h', e1, e2, e3⟩
theorem cd0 (h : JM) : F12_codeOf 0 0 h = some (213, h) := by
  rw [f_codeOf0 (by omega)]
  have : s_l0 0 = 213 := by decide +kernel
  rw [this]
theorem i753 (q0 : MA hs) : ∃ h', F12_init_753 j_f0 0 hs = F12_init_785 j_f0 0 h' ∧ h'.2 = hs.2 ∧ ∀ k n j, h'.1 k n j = if n = 0 ∧ k = 155 ∧ 0 ≤ j ∧ j < 32 then -1 else if n = 0 ∧ k = 184 ∧ 0 ≤ j ∧ j < 32 then 213 else hs.1 k n j := by
  have T := gl (L := fun n i h => F12_init_753 n i h) (M := 32) (E := fun h => F12_init_785 j_f0 0 h) (I := fun i g => g.2 = hs.2 ∧ ∀ k n j, g.1 k n j = if n = 0 ∧ k = 155 ∧ 0 ≤ j ∧ j < i then -1 else if n = 0 ∧ k = 184 ∧ 0 ≤ j ∧ j < i then 213 else hs.1 k n j) (fun n g I => by
    show F12_init_753b (F12_init_753 n) 32 g = _
    unfold F12_init_753b
    rw [if_pos (by omega)]) (fun n u g i0 i1 I => by
    obtain ⟨I1, I2⟩ := I
    have q : MA g := ma_cg I1 (fun k n j hk => by rw [I2, if_neg (by omega), if_neg (by omega)]) q0
    have r155 : g.2.2 12 0 55 = some 0 := (q (155, 1155, 32, 55) (by decide +kernel)).1
    have l155 : g.1 1155 0 1 = 32 := (q (155, 1155, 32, 55) (by decide +kernel)).2
    have r184 : g.2.2 12 0 84 = some 0 := (q (184, 1184, 32, 84) (by decide +kernel)).1
    have l184 : g.1 1184 0 1 = 32 := (q (184, 1184, 32, 84) (by decide +kernel)).2
    have a1 : (sI g 155 0 u (-1)).1 1184 0 1 = 32 := by rw [rI_o (Or.inl (by decide)), l184]
    refine ⟨sI (sI g 155 0 u (-1)) 184 0 u 213, ?_, I1, ?_⟩
    · show F12_init_753b (F12_init_753 n) u g = _
      unfold F12_init_753b
      rw [if_neg (by omega), r155, Option.bind_some, l155, g_t (by omega), lt_d, cd0, Option.bind_some, rI_R, r184, Option.bind_some]
      dsimp only
      rw [a1, g_t (by omega), lt_d, w32_of (by omega) (by omega)]
    · intro k n' j
      by_cases z : n' = 0 ∧ (k = 155 ∨ k = 184) ∧ j = u
      · obtain ⟨z1, z2, z3⟩ := z
        subst z1; subst z3
        rcases z2 with rfl | rfl
        · rw [if_pos (by omega)]; simp [rI_I]
        · rw [if_neg (by omega), if_pos (by omega)]; simp [rI_I]
      · rw [rI_o (by omega), rI_o (by omega), I2]
        by_cases y : n' = 0 ∧ k = 155 ∧ 0 ≤ j ∧ j < u
        · rw [if_pos y, if_pos (by omega)]
        · rw [if_neg y, if_neg (c := n' = 0 ∧ k = 155 ∧ 0 ≤ j ∧ j < u + 1) (by omega)]
          by_cases x : n' = 0 ∧ k = 184 ∧ 0 ≤ j ∧ j < u
          · rw [if_pos x, if_pos (c := n' = 0 ∧ k = 184 ∧ 0 ≤ j ∧ j < u + 1) (by omega)]
          · rw [if_neg x, if_neg (c := n' = 0 ∧ k = 184 ∧ 0 ≤ j ∧ j < u + 1) (by omega)]) 32 j_f0 0 hs (by omega) (by omega) (by unfold j_f0; omega) ⟨rfl, fun k n j => by rw [if_neg (by omega), if_neg (by omega)]⟩
  obtain ⟨h', e1, e2, e3⟩ := T
  exact ⟨h', e1, e2, e3⟩
theorem i785 (q0 : MA hs) : ∃ h', F12_init_785 j_f0 0 hs = F12_init_806 j_f0 0 h' ∧ h'.2 = hs.2 ∧ ∀ k n j, h'.1 k n j = if n = 0 ∧ k = 133 ∧ 0 ≤ j ∧ j < 80 then -1 else hs.1 k n j := by
  have T := gl (L := fun n i h => F12_init_785 n i h) (M := 80) (E := fun h => F12_init_806 j_f0 0 h) (I := fun i g => g.2 = hs.2 ∧ ∀ k n j, g.1 k n j = if n = 0 ∧ k = 133 ∧ 0 ≤ j ∧ j < i then -1 else hs.1 k n j) (fun n g I => by
    show F12_init_785b (F12_init_785 n) 80 g = _
    unfold F12_init_785b
    rw [if_pos (by omega)]) (fun n u g i0 i1 I => by
    obtain ⟨I1, I2⟩ := I
    have q : MA g := ma_cg I1 (fun k n j hk => by rw [I2, if_neg (by omega)]) q0
    have r133 : g.2.2 12 0 33 = some 0 := (q (133, 1133, 80, 33) (by decide +kernel)).1
    have l133 : g.1 1133 0 1 = 80 := (q (133, 1133, 80, 33) (by decide +kernel)).2
    refine ⟨sI g 133 0 u (-1), ?_, I1, ?_⟩
    · show F12_init_785b (F12_init_785 n) u g = _
      unfold F12_init_785b
      rw [if_neg (by omega), r133, Option.bind_some, l133, g_t (by omega), lt_d, w32_of (by omega) (by omega)]
    · intro k n' j
      by_cases z : n' = 0 ∧ k = 133 ∧ j = u
      · obtain ⟨z1, z2, z3⟩ := z
        subst z1; subst z2; subst z3
        rw [if_pos (by omega), rI_s]
      · rw [rI_o (by omega), I2]
        by_cases y : n' = 0 ∧ k = 133 ∧ 0 ≤ j ∧ j < u
        · rw [if_pos y, if_pos (by omega)]
        · rw [if_neg y, if_neg (by omega)]) 80 j_f0 0 hs (by omega) (by omega) (by unfold j_f0; omega) ⟨rfl, fun k n j => by rw [if_neg (by omega)]⟩
  obtain ⟨h', e1, e2, e3⟩ := T
  exact ⟨h', e1, e2, e3⟩
theorem i806 (q0 : MA hs) : ∃ h', F12_init_806 j_f0 0 hs = some h' ∧ h'.2 = hs.2 ∧ ∀ k n j, h'.1 k n j = if n = 0 ∧ (k = 165 ∨ k = 166) ∧ (j = 0 ∨ j = 1) then 1 else if n = 0 ∧ k = 187 ∧ 0 ≤ j ∧ j < 4 then 100 else hs.1 k n j := by
  have T := gl (L := fun n i h => F12_init_806 n i h) (M := 4) (E := fun h => some (sI (sI (sI (sI h 165 0 0 1) 165 0 1 1) 166 0 0 1) 166 0 1 1)) (I := fun i g => g.2 = hs.2 ∧ ∀ k n j, g.1 k n j = if n = 0 ∧ k = 187 ∧ 0 ≤ j ∧ j < i then 100 else hs.1 k n j) (fun n g I => by
    obtain ⟨I1, I2⟩ := I
    have q : MA g := ma_cg I1 (fun k n j hk => by rw [I2, if_neg (by omega)]) q0
    have r165 : g.2.2 12 0 65 = some 0 := (q (165, 1165, 2, 65) (by decide +kernel)).1
    have l165 : g.1 1165 0 1 = 2 := (q (165, 1165, 2, 65) (by decide +kernel)).2
    have r166 : g.2.2 12 0 66 = some 0 := (q (166, 1166, 2, 66) (by decide +kernel)).1
    have l166 : g.1 1166 0 1 = 2 := (q (166, 1166, 2, 66) (by decide +kernel)).2
    have a1 : (sI g 165 0 0 1).1 1165 0 1 = 2 := by rw [rI_o (Or.inl (by decide)), l165]
    have a2 : (sI (sI g 165 0 0 1) 165 0 1 1).1 1166 0 1 = 2 := by rw [rI_o (Or.inl (by decide)), rI_o (Or.inl (by decide)), l166]
    have a3 : (sI (sI (sI g 165 0 0 1) 165 0 1 1) 166 0 0 1).1 1166 0 1 = 2 := by rw [rI_o (Or.inl (by decide)), a2]
    show F12_init_806b (F12_init_806 n) 4 g = _
    unfold F12_init_806b
    rw [if_pos (by omega), r165, Option.bind_some, l165, g_t (by omega), lt_d, rI_R, r165, Option.bind_some, a1, g_t (by omega), lt_d, rI_R, rI_R, r166, Option.bind_some, a2, g_t (by omega), lt_d, rI_R, rI_R, rI_R, r166, Option.bind_some, a3, g_t (by omega), lt_d]) (fun n u g i0 i1 I => by
    obtain ⟨I1, I2⟩ := I
    have q : MA g := ma_cg I1 (fun k n j hk => by rw [I2, if_neg (by omega)]) q0
    have r187 : g.2.2 12 0 87 = some 0 := (q (187, 1187, 4, 87) (by decide +kernel)).1
    have l187 : g.1 1187 0 1 = 4 := (q (187, 1187, 4, 87) (by decide +kernel)).2
    refine ⟨sI g 187 0 u 100, ?_, I1, ?_⟩
    · show F12_init_806b (F12_init_806 n) u g = _
      unfold F12_init_806b
      rw [if_neg (by omega), r187, Option.bind_some, l187, g_t (by omega), lt_d, w32_of (by omega) (by omega)]
    · intro k n' j
      by_cases z : n' = 0 ∧ k = 187 ∧ j = u
      · obtain ⟨z1, z2, z3⟩ := z
        subst z1; subst z2; subst z3
        rw [if_pos (by omega), rI_s]
      · rw [rI_o (by omega), I2]
        by_cases y : n' = 0 ∧ k = 187 ∧ 0 ≤ j ∧ j < u
        · rw [if_pos y, if_pos (by omega)]
        · rw [if_neg y, if_neg (by omega)]) 4 j_f0 0 hs (by omega) (by omega) (by unfold j_f0; omega) ⟨rfl, fun k n j => by rw [if_neg (by omega)]⟩
  obtain ⟨h', e1, e2, e3⟩ := T
  refine ⟨_, e1, e2, fun k n j => ?_⟩
  by_cases z : n = 0 ∧ (k = 165 ∨ k = 166) ∧ (j = 0 ∨ j = 1)
  · obtain ⟨z1, z2, z3⟩ := z
    subst z1
    rw [if_pos ⟨rfl, z2, z3⟩]
    rcases z2 with rfl | rfl <;> rcases z3 with rfl | rfl <;> simp [rI_I]
  · rw [if_neg z, rI_o (by omega), rI_o (by omega), rI_o (by omega), rI_o (by omega), e3]
end IH
