/-! ===== reading: partners ===== -/
section RG
variable {f : Int → Int} {N : Int} {c m : JM} {B : Int}
theorem f_sideN {H : HT} (R : relN f N B H c m) {e x : Int} {o1 o2 : Option Int} (he : e = 0 ∨ e = 1) (hs : (o1 = some x ∧ o2 = none ∧ 8 * e ≤ x ∧ x < 8 * e + 8) ∨ (o1 = none ∧ o2 = some (16 * e + x - 100) ∧ 100 ≤ x ∧ x < 100 + N)) : F11_sideNumber o1 o2 c = some (x, c) := by
  have hN : 1 ≤ N ∧ N ≤ 16 := ⟨R.1.2.2.1, R.1.2.2.2.1⟩
  unfold F11_sideNumber
  rcases hs with ⟨q1, q2, q3, q4⟩ | ⟨q1, q2, q3, q4⟩
  · rw [q1, if_neg (by simp), Option.bind_some, R.1.2.2.2.2.2.2.2.2.2.2.2.1 x (by omega) (by omega)]
  · have e1 : 16 * e + x - 100 = 16 * e + (x - 100) := by omega
    rw [q1, q2, if_pos rfl, if_neg (by simp), Option.bind_some, e1, (R.1.2.2.2.2.2.2.2.2.2.2.2.2 e (x - 100) he (by omega) (by omega)).1, w32_of (by omega) (by omega), show 100 + (x - 100) = x by omega]
end RG
