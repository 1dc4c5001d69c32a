/-! ===== a unit is filled, both ===== -/
section SP
variable {f : Int → Int} {N z1 z2 X : Int} {sec : Option Int} {Y zd : Int} {c m c' m' : JM} {B B' : Int} {H : HT}
theorem p_fill (hf : f_ok f) (hB : B < 1000000000) {e u : Int} (he : e = 0 ∨ e = 1) (R : relN f N B H c m) :
    ∃ c1 m1 s0, ∃ (k a b d g : Nat) (L : List Nat), F5_fill e (some u) c = some c1 ∧ F12_sends e m = F12_sends_106 e s0 (k : Int) m1 ∧ relN f N B H c1 m1 ∧ (c1.1 9 u 0 = (a : Int) ∧ c1.1 9 u 1 = (b : Int) ∧ c1.1 9 u 2 = (d : Int) ∧ c1.1 9 u 3 = (g : Int) ∧ c1.1 9 u 5 = 0 ∧ mo L (c1.2.1 9 u 4)) ∧ (a < 128 ∧ b < 2 ∧ d < 128 ∧ g < 2 ∧ k < 512 ∧ ∀ j, L.getD j 0 < 256) ∧
      (0 ≤ m1.1 164 0 e ∧ m1.1 164 0 e < 2000000000 ∧ (a : Int) = m1.1 164 0 e % 128) ∧ (b : Int) = m1.1 166 0 e ∧ (0 ≤ m1.1 162 0 e ∧ m1.1 162 0 e < 2000000000 ∧ (d : Int) = m1.1 162 0 e % 128) ∧ (g : Int) = m1.1 165 0 e ∧
      ((s0 = 0 ∧ L = []) ∨ (s0 ≠ 0 ∧ m1.1 159 0 (k : Int) = (L.length : Int) ∧ (∀ j : Nat, j < L.length → m1.1 158 0 (16 * (k : Int) + j) = (L.getD j 0 : Int)))) ∧
      (∀ k' n' j, (k' ≠ 5 ∧ k' ≠ 9) ∨ (k' = 9 ∧ n' ≠ u) → c1.1 k' n' j = c.1 k' n' j ∧ c1.2.1 k' n' j = c.2.1 k' n' j) ∧ c1.2.2 = c.2.2 ∧ so w_o c c1 ∧ so w_om m m1 ∧ (∀ k' n' j, k' ≠ 162 → k' ≠ 163 → m1.1 k' n' j = m.1 k' n' j) := by
  have R4 := R.2.2.2.1
  obtain ⟨⟨m0, m1, m2, m3, m4, m5, m6, m7⟩, ⟨i1, i2, i3, i4, i5, i6, i7, i8, i9, i10, i11, i12⟩, msg⟩ := R4 e he
  obtain ⟨X2, hX2⟩ : ∃ X2, X2 = if c.1 5 e 2 < c.1 5 e 0 ∧ c.1 5 e 2 < c.1 5 e 1 + 100 then c.1 5 e 2 + 1 else c.1 5 e 2 := ⟨_, rfl⟩
  obtain ⟨X3, hX3⟩ : ∃ X3, X3 = if c.1 5 e 3 < X2 then X2 else c.1 5 e 3 := ⟨_, rfl⟩
  have hX : c.1 5 e 1 ≤ X2 ∧ X2 ≤ X3 ∧ X3 ≤ c.1 5 e 0 := by
    rw [hX3]
    by_cases z : c.1 5 e 2 < c.1 5 e 0 ∧ c.1 5 e 2 < c.1 5 e 1 + 100
    · rw [if_pos z] at hX2; split <;> omega
    · rw [if_neg z] at hX2; split <;> omega
  have cls := f_fill (u := u) he i1 i2 i3 i4 (by omega) ⟨i7, by omega⟩ hX2 hX3
  have ref := m_fill he i1 i2 i3 i4 (by omega) ⟨i7, by omega⟩ hX2 hX3 m0 m1 m2 m3
  obtain ⟨c1, a1, ⟨a2, a3, a4, a5, a6, a7⟩, a8, a9, a10, a11⟩ := cls
  obtain ⟨mF, s0, b1, b2, b3, b4⟩ := ref
  have soc : so w_o c c1 := fun k' n' j q => by
    simp [w_o] at q
    by_cases z : k' = 5
    · subst z
      exact ⟨by rw [a8, if_neg (by omega), if_neg (by omega)], a10 5 n' j (by decide), by rw [a11]⟩
    · have := a9 k' n' j (by omega)
      exact ⟨this.1, this.2, by rw [a11]⟩
  have mFo : ∀ k' n' j, k' ≠ 162 → k' ≠ 163 → mF.1 k' n' j = m.1 k' n' j := fun k' n' j p q => by rw [b4, if_neg (by omega), if_neg (by omega)]
  have RR : relN f N B H c1 mF := rel_o hf R soc b3 (r_m_nx he R4 a8 (fun k j _ _ => by
    rw [b4]
    by_cases y : k = 162 ∧ j = e
    · rw [if_pos ⟨y.1, rfl, y.2⟩, if_pos y]
    · rw [if_neg (fun w => y ⟨w.1, w.2.2⟩), if_neg y]
      by_cases y : k = 163 ∧ j = e
      · rw [if_pos ⟨y.1, rfl, y.2⟩, if_pos y]
      · rw [if_neg (fun w => y ⟨w.1, w.2.2⟩), if_neg y]) (fun n j => a10 31 n j (by decide)) (fun j => mFo 158 0 j (by decide) (by decide)) (fun j => mFo 159 0 j (by decide) (by decide)) hX)
  obtain ⟨k, hk⟩ : ∃ k : Nat, (k : Int) = 256 * e + c.1 5 e 2 % 256 := ⟨(256 * e + c.1 5 e 2 % 256).toNat, by omega⟩
  obtain ⟨a, ha⟩ : ∃ a : Nat, (a : Int) = c.1 5 e 4 % 128 := ⟨(c.1 5 e 4 % 128).toNat, by omega⟩
  obtain ⟨b, hb⟩ : ∃ b : Nat, (b : Int) = c.1 5 e 6 := ⟨(c.1 5 e 6).toNat, by omega⟩
  obtain ⟨d, hd⟩ : ∃ d : Nat, (d : Int) = X2 % 128 := ⟨(X2 % 128).toNat, by omega⟩
  obtain ⟨g, hg⟩ : ∃ g : Nat, (g : Int) = c.1 5 e 5 := ⟨(c.1 5 e 5).toNat, by omega⟩
  have f164 : mF.1 164 0 e = c.1 5 e 4 := by rw [mFo 164 0 e (by decide) (by decide)]; exact m4
  have f166 : mF.1 166 0 e = c.1 5 e 6 := by rw [mFo 166 0 e (by decide) (by decide)]; exact m6
  have f165 : mF.1 165 0 e = c.1 5 e 5 := by rw [mFo 165 0 e (by decide) (by decide)]; exact m5
  have f162 : mF.1 162 0 e = X2 := by rw [b4, if_pos ⟨rfl, rfl, rfl⟩]
  have fin : ∃ L : List Nat, mo L (c1.2.1 9 u 4) ∧ (∀ j, L.getD j 0 < 256) ∧ ((s0 = 0 ∧ L = []) ∨ (s0 ≠ 0 ∧ mF.1 159 0 (k : Int) = (L.length : Int) ∧ (∀ j : Nat, j < L.length → mF.1 158 0 (16 * (k : Int) + j) = (L.getD j 0 : Int)))) := by
    by_cases z : c.1 5 e 2 < c.1 5 e 0 ∧ c.1 5 e 2 < c.1 5 e 1 + 100
    · rw [if_pos z] at a7 b2
      obtain ⟨L, l1, l2, l3⟩ := msg (c.1 5 e 2) (by omega) z.1
      refine ⟨L, Or.inr (by rw [a7]; exact l1), mg_b l1, Or.inr ⟨by rw [b2]; decide, ?_, fun j hj => ?_⟩⟩
      · rw [mFo 159 0 _ (by decide) (by decide), hk]; exact l2
      · rw [mFo 158 0 _ (by decide) (by decide), hk]; exact l3 j hj
    · rw [if_neg z] at a7 b2
      exact ⟨[], Or.inl ⟨rfl, a7⟩, fun j => by simp, Or.inl ⟨b2, rfl⟩⟩
  obtain ⟨L, L1, L2, L3⟩ := fin
  exact ⟨c1, mF, s0, k, a, b, d, g, L, a1, by rw [b1, hk], RR, ⟨by rw [a2, ha], by rw [a3, hb], by rw [a4, hd], by rw [a5, hg], a6, L1⟩, ⟨by omega, by omega, by omega, by omega, by omega, L2⟩, ⟨by rw [f164]; omega, by rw [f164]; omega, by rw [f164, ha]⟩, by rw [f166, hb], ⟨by rw [f162]; omega, by rw [f162]; omega, by rw [f162, hd]⟩, by rw [f165, hg], L3, a9, a11, soc, b3, mFo⟩
end SP
