/-! ===== reading: partners ===== -/
section RG
variable {f : Int → Int} {N : Int} {c m : JM} {B : Int}
theorem f_sideN {H : HT} (R : relN f N B H c m) {e x : Int} {o1 o2 : Option Int} (he : e = 0 ∨ e = 1) (hs : (o1 = some x ∧ o2 = none ∧ 8 * e ≤ x ∧ x < 8 * e + 8) ∨ (o1 = none ∧ o2 = some (16 * e + x - 100) ∧ 100 ≤ x ∧ x < 100 + N)) : F11_sideNumber o1 o2 c = some (x, c) := by
  have hN : 1 ≤ N ∧ N ≤ 16 := ⟨R.1.2.2.1, R.1.2.2.2.1⟩
  unfold F11_sideNumber
  rcases hs with ⟨q1, q2, q3, q4⟩ | ⟨q1, q2, q3, q4⟩
  · rw [q1, if_neg (by simp), Option.bind_some, R.1.2.2.2.2.2.2.2.2.2.2.2.1 x (by omega) (by omega)]
  · have e1 : 16 * e + x - 100 = 16 * e + (x - 100) := by omega
    rw [q1, q2, if_pos rfl, if_neg (by simp), Option.bind_some, e1, (R.1.2.2.2.2.2.2.2.2.2.2.2.2 e (x - 100) he (by omega) (by omega)).1, w32_of (by omega) (by omega), show 100 + (x - 100) = x by omega]
theorem a_partner (hf : f_ok f) (R : r_all f N B c m) (l : Int) : ∃ v, F11_partner l c = some (v, c) ∧ F12_partner l m = some (v, m) := by
  unfold F11_partner F11_partner_32 F12_partner F12_partner_32
  rw [f_isL, m_isL2, Option.bind_some, Option.bind_some]
  dsimp only
  by_cases h : 0 ≤ l ∧ l ≤ 15
  · rw [if_pos h, if_neg (show ¬ (1 : Int) = 0 by decide), if_neg (show ¬ (1 : Int) = 0 by decide), g_t (by omega), g_t (by omega), lt_d]
    have la : m.1 119 0 l = rf f (c.2.2 4 l 11) := R.1.2.2.1.2.2.2.2.2.2.2.2.2.2.2.2.2.2.1 l h.1 (by omega)
    have wa : d_wa c := R.1.2.2.1.2.2.2.2.2.2.2.2.2.2.2.2.2.2.2.2.2.1
    have st : d_st f c m := R.1.2.2.1.1
    rw [la]
    cases hq : c.2.2 4 l 11 with
    | none => rw [if_pos rfl, if_pos (show rf f none = -1 from rfl)]; exact ⟨_, rfl, rfl⟩
    | some i =>
      obtain ⟨_, _, v, hw⟩ := wa l i hq
      have i0 : 0 ≤ i ∧ i < 72 := ⟨v.1, v.2.1⟩
      have fi := hf.2.2.1 i i0.1 (by omega)
      have e3 := (st i i0.1 i0.2).1
      have er : rf f (some i) = f i := rfl
      rw [if_neg (by simp), Option.bind_some, er, if_neg (hf.2.1 i), g_t fi, e3]
      by_cases h3 : c.1 0 i 9 = 3
      · obtain ⟨e, he, h5, h0, hA, hB⟩ := tlk R.1 i0 h3
        rw [if_pos h3, if_pos h3, g_t (by omega), g_t fi]
        have a : c.2.2 0 i 1 = some l ↔ m.1 136 0 (f i) = l := by
          rcases hA with q | q
          · rw [q.1]; exact ⟨fun z => Option.some.inj z, fun z => by rw [z]⟩
          · rw [q.1]; exact ⟨fun z => (by cases z), fun z => by omega⟩
        by_cases h6 : c.2.2 0 i 1 = some l
        · rw [if_pos h6, if_pos (a.mp h6), g_t fi]
          rcases hB with ⟨z, z1, z2⟩ | ⟨z1, z2, _, _, z3⟩
          · rw [if_pos z2, f_sideN R.1 he z]; exact ⟨_, rfl, rfl⟩
          · rw [if_neg (by omega), z3, w32_of (by omega) (by omega), show 200 + (m.1 137 0 (f i) - 200) = m.1 137 0 (f i) by omega]; exact ⟨_, rfl, rfl⟩
        · rw [if_neg h6, if_neg (fun z => h6 (a.mpr z)), g_t fi, f_sideN R.1 he hA]; exact ⟨_, rfl, rfl⟩
      · rw [if_neg h3, if_neg h3]; exact ⟨_, rfl, rfl⟩
  · rw [if_neg h, if_pos (show (0 : Int) = 0 from rfl), if_pos (show (0 : Int) = 0 from rfl)]
    exact ⟨_, rfl, rfl⟩
end RG
