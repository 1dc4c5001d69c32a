/-! ===== ticks ===== -/
theorem f_within (x a b : Int) (c : JM) : F11_isWithin x a b c = some (if a ≤ x ∧ x ≤ b then 1 else 0, c) := by
  unfold F11_isWithin F11_isWithin_14
  by_cases h1 : x < a
  · rw [if_pos h1, if_neg (by omega)]
  · rw [if_neg h1]
    by_cases h2 : b < x
    · rw [if_pos h2, if_neg (by omega)]
    · rw [if_neg h2, if_pos (by omega)]
section TKS
variable {N : Int}
theorem p_ticks {l1 : Int} (h1 : l1 ≤ 1000) : ∀ (d : Nat) (fu fu' : Nat) (l2 B : Int) (f : Int → Int) (c m : JM), f_ok f → r_all f N B c m → 0 ≤ l2 → l2 + d = l1 → d < fu → d < fu' → c.1 11 0 10 + d ≤ 10000000 → B + 686 * d + 1000 < 1000000000 →
    ∃ f' c' m' v, f_ok f' ∧ F11_tick_30 fu l1 l2 c = some (v, c') ∧ F12_tick_32 fu' l1 l2 m = some (v, m') ∧ r_all f' N (B + 686 * d) c' m' ∧ so wTk c c' ∧ so wTm m m'
  | _, 0, _, _, _, _, _, _, _, _, _, _, h, _, _, _ => by omega
  | _, _ + 1, 0, _, _, _, _, _, _, _, _, _, _, h, _, _ => by omega
  | 0, fu + 1, fu' + 1, l2, B, f, c, m, hf, R, h0, h2, _, _, _, _ => by
    refine ⟨f, c, m, c.1 11 0 10, hf, ?_, ?_, by simpa using R, so_rfl c, so_rfl m⟩
    · show F11_tick_30b (F11_tick_30 fu) l1 l2 c = _
      unfold F11_tick_30b
      rw [if_pos (by omega)]
    · show F12_tick_32b (F12_tick_32 fu') l1 l2 m = _
      unfold F12_tick_32b
      have e : m.1 12 0 2 = c.1 11 0 10 := R.1.1.2.2.2.2.2.2.2.1
      rw [if_pos (by omega), e]
  | d + 1, fu + 1, fu' + 1, l2, B, f, c, m, hf, R, h0, h2, h3, h4, h5, h6 => by
    obtain ⟨f1, c1, m1, hf1, a1, a2, R1, n1, sc1, sm1⟩ := p_tick1 hf (by omega) R (by omega)
    obtain ⟨f2, c2, m2, v, hf2, b1, b2, R2, sc2, sm2⟩ := p_ticks h1 d fu fu' (l2 + 1) (B + 686) f1 c1 m1 hf1 R1 (by omega) (by omega) (by omega) (by omega) (by omega) (by omega)
    have hw : w32 (l2 + 1) = l2 + 1 := w32_of (by omega) (by omega)
    refine ⟨f2, c2, m2, v, hf2, ?_, ?_, ?_, so_tr sc1 sc2, so_tr sm1 sm2⟩
    · show F11_tick_30b (F11_tick_30 fu) l1 l2 c = _
      rw [a1 _ l1 l2 (by omega), hw]; exact b1
    · show F12_tick_32b (F12_tick_32 fu') l1 l2 m = _
      rw [a2 _ l1 l2 (by omega), hw]; exact b2
    · rw [show B + 686 * ((d + 1 : Nat) : Int) = B + 686 + 686 * (d : Int) by omega]; exact R2
end TKS
