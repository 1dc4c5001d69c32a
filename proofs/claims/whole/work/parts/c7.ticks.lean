/-! ===== ticks ===== -/
theorem f_within (x a b : Int) (c : JM) : F11_isWithin x a b c = some (if a ≤ x ∧ x ≤ b then 1 else 0, c) := by
  unfold F11_isWithin F11_isWithin_14
  by_cases h1 : x < a
  · rw [if_pos h1, if_neg (by omega)]
  · rw [if_neg h1]
    by_cases h2 : b < x
    · rw [if_pos h2, if_neg (by omega)]
    · rw [if_neg h2, if_pos (by omega)]
section TKS
variable {N : Int}
theorem p_ticks {l1 : Int} (h1 : l1 ≤ 1000) : ∀ (d : Nat) (fu fu' : Nat) (l2 B : Int) (f : Int → Int) (c m : JM), f_ok f → r_all f N B c m → 0 ≤ l2 → l2 + d = l1 → d < fu → d < fu' → c.1 11 0 10 + d ≤ 10000000 → B + 686 * d + 1000 < 1000000000 →
    ∃ f' c' m' v, f_ok f' ∧ F11_tick_30 fu l1 l2 c = some (v, c') ∧ F12_tick_32 fu' l1 l2 m = some (v, m') ∧ r_all f' N (B + 686 * d) c' m' ∧ so wTk c c' ∧ so wTm m m'
  | _, 0, _, _, _, _, _, _, _, _, _, _, h, _, _, _ => by omega
  | _, _ + 1, 0, _, _, _, _, _, _, _, _, _, _, h, _, _ => by omega
  | 0, fu + 1, fu' + 1, l2, B, f, c, m, hf, R, h0, h2, _, _, _, _ => by
    refine ⟨f, c, m, c.1 11 0 10, hf, ?_, ?_, by simpa using R, so_rfl c, so_rfl m⟩
    · show F11_tick_30b (F11_tick_30 fu) l1 l2 c = _
      unfold F11_tick_30b
      rw [if_pos (by omega)]
    · show F12_tick_32b (F12_tick_32 fu') l1 l2 m = _
      unfold F12_tick_32b
      have e : m.1 12 0 2 = c.1 11 0 10 := R.1.1.2.2.2.2.2.2.2.1
      rw [if_pos (by omega), e]
  | d + 1, fu + 1, fu' + 1, l2, B, f, c, m, hf, R, h0, h2, h3, h4, h5, h6 => by
    obtain ⟨f1, c1, m1, hf1, a1, a2, R1, n1, sc1, sm1⟩ := p_tick1 hf (by omega) R (by omega)
    obtain ⟨f2, c2, m2, v, hf2, b1, b2, R2, sc2, sm2⟩ := p_ticks h1 d fu fu' (l2 + 1) (B + 686) f1 c1 m1 hf1 R1 (by omega) (by omega) (by omega) (by omega) (by omega) (by omega)
    have hw : w32 (l2 + 1) = l2 + 1 := w32_of (by omega) (by omega)
    refine ⟨f2, c2, m2, v, hf2, ?_, ?_, ?_, so_tr sc1 sc2, so_tr sm1 sm2⟩
    · show F11_tick_30b (F11_tick_30 fu) l1 l2 c = _
      rw [a1 _ l1 l2 (by omega), hw]; exact b1
    · show F12_tick_32b (F12_tick_32 fu') l1 l2 m = _
      rw [a2 _ l1 l2 (by omega), hw]; exact b2
    · rw [show B + 686 * ((d + 1 : Nat) : Int) = B + 686 + 686 * (d : Int) by omega]; exact R2
theorem p_tick {f : Int → Int} {B : Int} {c m : JM} (hf : f_ok f) (hB : B + 700000 < 1000000000) (R : r_all f N B c m) (x : Int) :
    ∃ f' B' c' m' v, f_ok f' ∧ B' ≤ B + 686000 ∧ F11_tick x c = some (v, c') ∧ F12_tick x m = some (v, m') ∧ r_all f' N B' c' m' ∧ so wTk c c' ∧ so wTm m m' := by
  have h100 : 1001 < j_fu := by unfold j_fu; omega
  have en : m.1 12 0 2 = c.1 11 0 10 := R.1.1.2.2.2.2.2.2.2.1
  have n0 : 0 ≤ c.1 11 0 10 := R.1.1.2.2.2.2.2.2.2.2.1
  have n1 : c.1 11 0 10 ≤ 10000000 := R.1.1.2.2.2.2.2.2.2.2.2.1
  unfold F11_tick F12_tick
  rw [f_within, m_in, Option.bind_some, Option.bind_some]
  dsimp only
  by_cases h : 1 ≤ x ∧ x ≤ 1000
  · have e1 : w32 (10000000 - x) = 10000000 - x := w32_of (by omega) (by omega)
    have e2 : w32 (c.1 11 0 10 + x) = c.1 11 0 10 + x := w32_of (by omega) (by omega)
    rw [if_pos h, if_neg (show ¬ (1 : Int) = 0 by decide), if_neg (show ¬ (1 : Int) = 0 by decide), e1, en, e2]
    by_cases q : c.1 11 0 10 ≤ 10000000 - x
    · rw [if_pos q, if_pos (by omega)]
      obtain ⟨f2, c2, m2, v, hf2, b1, b2, R2, sc2, sm2⟩ := p_ticks (N := N) h.2 x.toNat j_fu j_fu 0 B f c m hf R (by omega) (by omega) (by omega) (by omega) (by omega) (by omega)
      exact ⟨f2, _, c2, m2, v, hf2, by omega, b1, b2, R2, sc2, sm2⟩
    · rw [if_neg q, if_neg (by omega)]
      exact ⟨f, B, c, m, -3, hf, by omega, rfl, rfl, R, so_rfl c, so_rfl m⟩
  · rw [if_neg h, if_pos (show (0 : Int) = 0 from rfl), if_pos (show (0 : Int) = 0 from rfl)]
    exact ⟨f, B, c, m, -2, hf, by omega, rfl, rfl, R, so_rfl c, so_rfl m⟩
end TKS
