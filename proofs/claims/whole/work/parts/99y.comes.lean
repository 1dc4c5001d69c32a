/-! ===== a unit comes ===== -/
theorem v_and127 (x : Int) : j_and (w32 x) 127 = x % 128 := by
  obtain ⟨n, hn⟩ := Int.eq_ofNat_of_zero_le (show 0 ≤ x % 4294967296 by omega)
  have e : Int32.ofInt x = nI n := by
    rw [← n_oi, ← hn, ← Int32.toInt_inj, Int32.toInt_ofInt, Int32.toInt_ofInt]
    show x.bmod 4294967296 = (x % 4294967296).bmod 4294967296
    exact (Int.emod_bmod x 4294967296).symm
  unfold j_and
  rw [w32_i, e, show (127 : Int) = ((127 : Nat) : Int) from rfl, n_oi, nx_and, show (127 : Nat) = 2 ^ 7 - 1 from rfl, Nat.and_two_pow_sub_one_eq_mod, nI_toInt (by omega)]
  omega
theorem j_rem128 {x : Int} (h1 : -2147483000 ≤ x) (h2 : x < 2147483000) : ∃ q t, x = 128 * q + t ∧ -128 < t ∧ t < 128 ∧ j_rem x 128 = t := by
  by_cases z : 0 ≤ x
  · exact ⟨x / 128, x % 128, by omega, by omega, by omega, i_rem z (by omega) (by decide) (by decide)⟩
  · have hx : (Int32.ofInt x).toInt = x := j_t32 ⟨by omega, by omega⟩
    have hy : (Int32.ofInt 128).toInt = 128 := by decide
    have hd : (Int32.ofInt x / Int32.ofInt 128).toInt = -((-x) / 128) := by
      rw [Int32.toInt_div_of_ne_right _ _ (by decide), hx, hy]
      have : x = -(-x) := by omega
      rw [this, Int.neg_tdiv, Int.tdiv_eq_ediv_of_nonneg (by omega)]
      omega
    refine ⟨-((-x) / 128), x + 128 * ((-x) / 128), by omega, by omega, by omega, ?_⟩
    unfold j_rem
    rw [Int32.toInt_sub, Int32.toInt_mul, hd, hx, hy]
    have e1 : (-((-x) / 128) * 128).bmod (2 ^ 32) = -((-x) / 128) * 128 := by
      rw [Int.bmod_def]; split <;> omega
    rw [e1]
    have e2 : (x - -((-x) / 128) * 128).bmod (2 ^ 32) = x + 128 * ((-x) / 128) := by
      rw [Int.bmod_def]; split <;> omega
    exact e2
theorem m_modulo {x : Int} (h1 : -2147483000 ≤ x) (h2 : x < 2147483000) (m : JM) : F12_modulo (w32 x) m = some (x % 128, m) := by
  obtain ⟨q, t, e1, e2, e3, e4⟩ := j_rem128 h1 h2
  unfold F12_modulo
  rw [w32_of (x := x) (by omega) (by omega), e4, w32_of (by omega) (by omega), i_rem (by omega) (by omega) (by decide) (by decide)]
  congr 2
  omega
theorem m_in (x a b : Int) (m : JM) : F12_in x a b m = some (if a ≤ x ∧ x ≤ b then 1 else 0, m) := by
  unfold F12_in F12_in_17
  by_cases z : x < a
  · rw [if_pos (lc_lt.2 z), if_neg (by omega)]
  · rw [if_neg (fun w => z (lc_lt.1 w))]
    by_cases y : b < x
    · rw [if_pos (lc_gt.2 y), if_neg (by omega)]
    · rw [if_neg (fun w => y (lc_gt.1 w)), if_pos (by omega)]
theorem m_so121 {m : JM} {n : Nat} {b : Nat → Nat} (hn : n < 64) (hb : ∀ j : Nat, j < n → m.1 168 0 j = (b j : Int)) : ∀ (d fu i : Nat), i + d = n → d < fu → ((∀ j, i ≤ j → j < n → b j ≤ 11) → F12_isSo_121 fu (n : Int) (i : Int) m = some (1, m)) ∧ (¬ (∀ j, i ≤ j → j < n → b j ≤ 11) → F12_isSo_121 fu (n : Int) (i : Int) m = some (0, m))
  | _, 0, _, _, q => by omega
  | 0, fu + 1, i, e, _ => by
    refine ⟨fun _ => ?_, fun h => absurd (fun j a b => by omega) h⟩
    show F12_isSo_121b (F12_isSo_121 fu) _ _ m = _
    unfold F12_isSo_121b
    rw [if_pos (by omega)]
  | d + 1, fu + 1, i, e, q => by
    have ih := m_so121 hn hb d fu (i + 1) (by omega) (by omega)
    have wi : w32 ((i : Int) + 1) = ((i + 1 : Nat) : Int) := by rw [w32_of (by omega) (by omega)]; omega
    have hr := hb i (by omega)
    have st : F12_isSo_121 (fu + 1) (n : Int) (i : Int) m = if (b i : Int) ≤ 11 then F12_isSo_121 fu (n : Int) ((i + 1 : Nat) : Int) m else some (0, m) := by
      show F12_isSo_121b (F12_isSo_121 fu) _ _ m = _
      unfold F12_isSo_121b
      rw [if_neg (by omega), g_t (by omega), hr, wi]
    refine ⟨fun h => ?_, fun h => ?_⟩
    · rw [st, if_pos (by have := h i (Nat.le_refl _) (by omega); omega)]
      exact ih.1 (fun j a b => h j (by omega) b)
    · rw [st]
      by_cases z : b i ≤ 11
      · rw [if_pos (by omega)]
        refine ih.2 (fun g => h (fun j a b' => ?_))
        by_cases y : j = i
        · subst y; exact z
        · exact g j (by omega) b'
      · rw [if_neg (by omega)]
theorem m_isSo {m : JM} {n : Nat} {b : Nat → Nat} (hn : n < 64) (hb : ∀ j : Nat, j < n → m.1 168 0 j = (b j : Int)) {N : Int} (hN : m.1 12 0 0 = N) : (sok N n b → F12_isSo (n : Int) m = some (1, m)) ∧ (¬ sok N n b → F12_isSo (n : Int) m = some (0, m)) := by
  have h121 := m_so121 hn hb (n - 4) j_fu 4
  unfold F12_isSo F12_isSo_35 F12_isSo_117
  by_cases n2 : n < 2
  · rw [if_pos (by omega)]
    exact ⟨fun h => by have := h.1; omega, fun _ => rfl⟩
  · have b0 := hb 0 (by omega)
    have b1 := hb 1 (by omega)
    rw [show ((0 : Nat) : Int) = 0 from rfl] at b0
    rw [show ((1 : Nat) : Int) = 1 from rfl] at b1
    rw [if_neg (by omega), g_t (by omega), hN, b0]
    by_cases k : (b 0 : Int) < N
    · rw [if_neg (by omega), g_t (by omega), b1, m_in, Option.bind_some]
      dsimp only
      by_cases t : 1 ≤ b 1 ∧ b 1 ≤ 5
      · rw [if_pos (show (1 : Int) ≤ (b 1 : Int) ∧ (b 1 : Int) ≤ 5 by omega), if_neg (by decide), g_t (by omega), b1]
        by_cases t4 : b 1 = 4
        · rw [if_pos (by omega)]
          by_cases n3 : n = 3
          · rw [if_pos (by omega)]
            exact ⟨fun _ => rfl, fun h => absurd ⟨by omega, k, Or.inl ⟨t4, n3⟩⟩ h⟩
          · rw [if_neg (by omega)]
            exact ⟨fun h => by obtain ⟨_, _, h⟩ := h; omega, fun _ => rfl⟩
        · rw [if_neg (by omega), g_t (by omega)]
          by_cases t1 : b 1 = 1
          · rw [if_pos (by omega)]
            by_cases n4 : n < 4
            · rw [if_pos (by omega)]
              exact ⟨fun h => by obtain ⟨_, _, h⟩ := h; omega, fun _ => rfl⟩
            · have b2 := hb 2 (by omega)
              have b3 := hb 3 (by omega)
              rw [show ((2 : Nat) : Int) = 2 from rfl] at b2
              rw [show ((3 : Nat) : Int) = 3 from rfl] at b3
              rw [if_neg (by omega), g_t (by omega), b2]
              by_cases w5 : 5 < b 2
              · rw [if_pos (by omega)]
                exact ⟨fun h => by obtain ⟨_, _, h⟩ := h; omega, fun _ => rfl⟩
              · rw [if_neg (by omega), g_t (by omega), b3]
                by_cases c12 : 12 < b 3
                · rw [if_pos (by omega)]
                  exact ⟨fun h => by obtain ⟨_, _, h⟩ := h; omega, fun _ => rfl⟩
                · rw [if_neg (by omega), g_t (by omega), w32_of (by omega) (by omega)]
                  by_cases ne : n = 4 + b 3
                  · rw [if_pos (by omega)]
                    have h := h121 (by omega) (by unfold j_fu; omega)
                    refine ⟨fun q => h.1 ?_, fun q => h.2 (fun g => q ⟨by omega, k, Or.inr (Or.inr ⟨t1, by omega, by omega, by omega, ne, g⟩)⟩)⟩
                    obtain ⟨_, _, q⟩ := q
                    rcases q with q | q | ⟨_, _, _, _, _, q⟩
                    · omega
                    · omega
                    · exact q
                  · rw [if_neg (by omega)]
                    exact ⟨fun h => by obtain ⟨_, _, h⟩ := h; omega, fun _ => rfl⟩
          · rw [if_neg (by omega)]
            by_cases n2' : n = 2
            · rw [if_pos (by omega)]
              exact ⟨fun _ => rfl, fun h => absurd ⟨by omega, k, Or.inr (Or.inl ⟨by omega, n2'⟩)⟩ h⟩
            · rw [if_neg (by omega)]
              exact ⟨fun h => by obtain ⟨_, _, h⟩ := h; omega, fun _ => rfl⟩
      · rw [if_neg (show ¬ ((1 : Int) ≤ (b 1 : Int) ∧ (b 1 : Int) ≤ 5) by omega), if_pos rfl]
        exact ⟨fun h => by obtain ⟨_, _, h⟩ := h; omega, fun _ => rfl⟩
    · rw [if_pos (by omega)]
      exact ⟨fun h => absurd h.2.1 k, fun _ => rfl⟩
/-- what the class does with a message -/
def ud (k2 : Int → JM → Option JM) (l1 x : Int) (h : JM) : Option JM :=
 if j_lcmp x (-1) = 0 then (
 F11_takeUnits_129 k2 l1 h) else (
 if j_lcmp x 0 = 0 then (
 F11_takeUnits_129 k2 l1 h) else (
 (F9_circuitOf x h).bind (fun q2 =>
 if q2.1 < q2.2.1 11 0 0 then (
 g_ ((0 : Int) ≤ l1 ∧ l1 < (2 : Int)) (
 g_ ((0 : Int) ≤ q2.1 ∧ q2.1 < (q2.2.1 1020 l1 1 : Int)) (
 (F9_typeOf x q2.2).bind (fun q3 =>
 if q3.1 = 1 then (
 g_ ((0 : Int) ≤ l1 ∧ l1 < (2 : Int)) (
 (F11_takeIam (some l1) (some (16 * l1 + q2.1)) x q3.2).bind (fun h5 =>
 F11_takeUnits_129 k2 l1 h5))) else (
 g_ ((0 : Int) ≤ l1 ∧ l1 < (2 : Int)) (
 (F11_takeSignal (some l1) (some (16 * l1 + q2.1)) x q3.2).bind (fun h4 =>
 F11_takeUnits_129 k2 l1 h4))))))) else (
 F11_takeUnits_129 k2 l1 q2.2))))
section SM
variable {f : Int → Int} {N z1 z2 X : Int} {sec : Option Int} {Y zd : Int} {c m c' m' : JM} {B B' : Int} {H : HT}
/-- a message comes -/
theorem p_comes (hf : f_ok f) (hB : B + 300 < 2000000000) {h : Int} (hh : h + 1 ≤ 72) {e : Int} (he : e = 0 ∨ e = 1) {n : Nat} {b : Nat → Nat} {x : Int} (hn : 0 < n ∧ n < 64) (hb : ∀ j : Nat, j < n → m.1 168 0 j = (b j : Int)) (hd : dm N n b x) (R : relN f N B (h, aL) c m) :
    ∃ f' c' m', f_ok f' ∧ (∀ k2, ud k2 e x c = k2 (e + 1) c') ∧ F12_comes e (n : Int) m = some m' ∧ relN f' N (B + 20) (h + 1, aL) c' m' ∧ so w_D c c' ∧ so w_DM m m' := by
  have hNm := R.1.2.1
  have hNc := R.1.1
  have hN16 := R.1.2.2.2.1
  have h1020 := (R.1.2.2.2.2.2.2.2.2.2.2.1 e he).1
  have we : w32 (e + 1) = e + 1 := w32_of (by omega) (by omega)
  have iso := m_isSo hn.2 hb hNm
  rcases hd with ⟨z, _⟩ | ⟨_, rfl, hs⟩ | ⟨L, hL, hlen, hbL⟩
  · omega
  · refine ⟨f, c, m, hf, fun k2 => ?_, ?_, rel_mono (by omega) (rel_up R (by omega) hh), so_rfl c, so_rfl m⟩
    · unfold ud F11_takeUnits_129
      rw [if_neg (by decide), if_pos (by decide), we]
    · unfold F12_comes
      rw [iso.2 hs, Option.bind_some, if_pos rfl]
  · have x0 := mg_nn hL
    by_cases hk0 : (L.getD 0 0 : Int) < N
    rotate_left
    · have hc : ∀ q : JM, F9_circuitOf x q = some ((L.getD 0 0 : Int), q) := fun q => by
        rcases hL with ⟨k, ty, h1, h2, rfl, rfl⟩ | ⟨k, a, h1, h2, rfl, rfl⟩ | ⟨k, w, K, h1, h2, h3, rfl, rfl⟩
        · rw [show ty * 2 ^ 59 + k * 2 ^ 55 = ty * 2 ^ 59 + k * 2 ^ 55 + 0 from (Nat.add_zero _).symm]; exact v_circ (by omega) h1 (by decide) q
        · exact v_circ (by decide) h1 (by omega) q
        · have hP := k_P_lt h3
          rw [show 2 ^ 59 + k * 2 ^ 55 + w * 2 ^ 52 + k_P K = 1 * 2 ^ 59 + k * 2 ^ 55 + (w * 2 ^ 52 + k_P K) by omega]; exact v_circ (by decide) h1 (by omega) q
      have hb0 : b 0 = L.getD 0 0 := hbL 0 (by omega)
      refine ⟨f, c, m, hf, fun k2 => ?_, ?_, rel_mono (by omega) (rel_up R (by omega) hh), so_rfl c, so_rfl m⟩
      · unfold ud F11_takeUnits_129
        rw [if_neg (by rw [lc_eq]; omega), if_neg (by rw [lc_eq]; omega), hc, Option.bind_some]
        dsimp only
        rw [hNc, if_neg hk0, we]
      · unfold F12_comes
        rw [iso.2 (fun q => hk0 (by rw [← hb0]; exact q.2.1)), Option.bind_some, if_pos rfl]
    -- the common way in
    have CC : ∀ (k ty : Nat), k < 16 → (k : Int) < N → (∀ q : JM, F9_circuitOf x q = some ((k : Int), q)) → (∀ q : JM, F9_typeOf x q = some ((ty : Int), q)) → ∀ k2, ud k2 e x c = if (ty : Int) = 1 then (F11_takeIam (some e) (some (16 * e + (k : Int))) x c).bind (fun h5 => k2 (e + 1) h5) else (F11_takeSignal (some e) (some (16 * e + (k : Int))) x c).bind (fun h5 => k2 (e + 1) h5) := fun k ty _ hkN e1 e2 k2 => by
      unfold ud F11_takeUnits_129
      rw [if_neg (by rw [lc_eq]; omega), if_neg (by rw [lc_eq]; omega), e1, Option.bind_some]
      dsimp only
      rw [hNc, if_pos hkN, g_t (by omega), h1020, g_t (by omega), e2, Option.bind_some, we]
      dsimp only
      rw [g_t (by omega), g_t (by omega)]
    have MM : sok N n b → ∀ k : Nat, b 0 = k → (k : Int) < N → F12_comes e (n : Int) m = F12_comes_44 e (16 * e + (k : Int)) (m.1 155 0 (16 * e + (k : Int))) (if m.1 154 0 (16 * e + (k : Int)) = 1 then 1 else 0) m := fun hs k hk hkN => by
      have b0 := hb 0 (by omega)
      rw [show ((0 : Nat) : Int) = 0 from rfl, hk] at b0
      have wt : w32 (w32 (16 * e) + (k : Int)) = 16 * e + (k : Int) := by rw [w32_of (x := 16 * e) (by omega) (by omega), w32_of (by omega) (by omega)]
      unfold F12_comes
      rw [iso.1 hs, Option.bind_some]
      dsimp only
      rw [if_neg (by decide), g_t (by omega), b0, wt, lt_d, g_t (by omega), lt_d, g_t (by omega)]
      split <;> rfl
    have c168 : ∀ j : Nat, j < n → m.1 168 0 j = (L.getD j 0 : Int) := fun j hj => by rw [hb j hj, hbL j hj]
    have sig : ∀ {c' m'}, relN f N (B + 10) (h, aL) c' m' → relN f N (B + 20) (h + 1, aL) c' m' := fun r => rel_mono (by omega) (rel_up r (by omega) hh)
    rcases hL with ⟨k, ty, h1, h2, rfl, rfl⟩ | ⟨k, a, h1, h2, rfl, rfl⟩ | ⟨k, w, K, h1, h2, h3, rfl, rfl⟩
    · have hlen' : n = 2 := by simp at hlen; omega
      have hkN : (k : Int) < N := by simpa using hk0
      have e0 : ty * 2 ^ 59 + k * 2 ^ 55 = ty * 2 ^ 59 + k * 2 ^ 55 + 0 := (Nat.add_zero _).symm
      have e1 : ∀ q : JM, F9_circuitOf ((ty * 2 ^ 59 + k * 2 ^ 55 : Nat) : Int) q = some ((k : Int), q) := fun q => by rw [e0]; exact v_circ (by omega) h1 (by decide) q
      have e2 : ∀ q : JM, F9_typeOf ((ty * 2 ^ 59 + k * 2 ^ 55 : Nat) : Int) q = some ((ty : Int), q) := fun q => by rw [e0]; exact v_type (by omega) h1 (by decide) q
      have hb0 : b 0 = k := hbL 0 (by omega)
      have hb1 : b 1 = ty := hbL 1 (by omega)
      have cc := CC k ty h1 hkN e1 e2
      have mm := MM ⟨by omega, by rw [hb0]; exact hkN, Or.inr (Or.inl ⟨by omega, hlen'⟩)⟩ k hb0 hkN
      have m1 : m.1 168 0 1 = (ty : Int) := by have := hb 1 (by omega); rw [hb1] at this; exact this
      rcases h2 with rfl | rfl | rfl
      · obtain ⟨c', m', p1, p2, p3, p4, p5⟩ := p_acm (k := (k : Int)) hf (by omega) he ⟨by omega, hkN⟩ (e2 c) m1 R
        exact ⟨f, c', m', hf, fun k2 => by rw [cc, if_neg (by decide), p1, Option.bind_some], by rw [mm, p2], sig p3, so_mono w_j1 p4, so_mono w_j2 p5⟩
      · obtain ⟨c', m', p1, p2, p3, p4, p5⟩ := p_anm (k := (k : Int)) hf (by omega) he ⟨by omega, hkN⟩ (e2 c) m1 R
        exact ⟨f, c', m', hf, fun k2 => by rw [cc, if_neg (by decide), p1, Option.bind_some], by rw [mm, p2], sig p3, so_mono w_j1 p4, so_mono w_j2 p5⟩
      · obtain ⟨c', m', p1, p2, p3, p4, p5⟩ := p_rlc (k := (k : Int)) hf he ⟨by omega, hkN⟩ (e2 c) m1 R
        exact ⟨f, c', m', hf, fun k2 => by rw [cc, if_neg (by decide), p1, Option.bind_some], by rw [mm, p2], sig p3, so_mono w_j1 p4, so_mono w_j2 p5⟩
    · have hlen' : n = 3 := by simp at hlen; omega
      have hkN : (k : Int) < N := by simpa using hk0
      have e1 : ∀ q : JM, F9_circuitOf ((4 * 2 ^ 59 + k * 2 ^ 55 + a : Nat) : Int) q = some ((k : Int), q) := fun q => v_circ (by decide) h1 (by omega) q
      have e2 : ∀ q : JM, F9_typeOf ((4 * 2 ^ 59 + k * 2 ^ 55 + a : Nat) : Int) q = some (((4 : Nat) : Int), q) := fun q => v_type (by decide) h1 (by omega) q
      have e3 := v_cause (ty := 4) h1 h2 c
      have hb0 : b 0 = k := hbL 0 (by omega)
      have hb1 : b 1 = 4 := hbL 1 (by omega)
      have hb2 : b 2 = a := hbL 2 (by omega)
      have cc := CC k 4 h1 hkN e1 e2
      have mm := MM ⟨by omega, by rw [hb0]; exact hkN, Or.inl ⟨hb1, hlen'⟩⟩ k hb0 hkN
      have m0 : m.1 168 0 0 = (k : Int) := by have := hb 0 (by omega); rw [hb0] at this; exact this
      have m1 : m.1 168 0 1 = 4 := by have := hb 1 (by omega); rw [hb1] at this; exact this
      have m2 : m.1 168 0 2 = (a : Int) := by have := hb 2 (by omega); rw [hb2] at this; exact this
      obtain ⟨c', m', p1, p2, p3, p4, p5⟩ := p_rel (k := (k : Int)) hf (by omega) he ⟨by omega, hkN⟩ (e2 c) e3 (by omega) m0 m1 m2 R
      exact ⟨f, c', m', hf, fun k2 => by rw [cc, if_neg (by decide), p1, Option.bind_some], by rw [mm, p2], sig p3, so_mono w_j1 p4, so_mono w_j2 p5⟩
    · have hlen' : n = 4 + K.length := by simp at hlen; omega
      have hkN : (k : Int) < N := by simpa using hk0
      have hP := k_P_lt h3
      have q1 : 2 ^ 59 + k * 2 ^ 55 + w * 2 ^ 52 + k_P K = 1 * 2 ^ 59 + k * 2 ^ 55 + (w * 2 ^ 52 + k_P K) := by omega
      have q2 : 2 ^ 59 + k * 2 ^ 55 + w * 2 ^ 52 + k_P K = 1 * 2 ^ 59 + k * 2 ^ 55 + w * 2 ^ 52 + k_P K := by omega
      have e1 : ∀ q : JM, F9_circuitOf ((2 ^ 59 + k * 2 ^ 55 + w * 2 ^ 52 + k_P K : Nat) : Int) q = some ((k : Int), q) := fun q => by rw [q1]; exact v_circ (by decide) h1 (by omega) q
      have e2 : ∀ q : JM, F9_typeOf ((2 ^ 59 + k * 2 ^ 55 + w * 2 ^ 52 + k_P K : Nat) : Int) q = some (((1 : Nat) : Int), q) := fun q => by rw [q1]; exact v_type (by decide) h1 (by omega) q
      have e3 : ∀ q : JM, F9_forwardsOf ((2 ^ 59 + k * 2 ^ 55 + w * 2 ^ 52 + k_P K : Nat) : Int) q = some ((w : Int), q) := fun q => by rw [q2]; exact v_forw (by decide) h1 (by omega) hP q
      have e4 : ∀ q : JM, F9_keysOf ((2 ^ 59 + k * 2 ^ 55 + w * 2 ^ 52 + k_P K : Nat) : Int) q = some ((k_P K : Int), q) := fun q => by rw [q2]; exact v_keys (by decide) h1 (by omega) hP q
      have hb0 : b 0 = k := hbL 0 (by omega)
      have hb1 : b 1 = 1 := hbL 1 (by omega)
      have hb2 : b 2 = w := hbL 2 (by omega)
      have hb3 : b 3 = K.length := hbL 3 (by omega)
      have hk12 := h3.1
      have hbK : ∀ j, j < K.length → b (4 + j) = K.getD j 0 := fun j hj => by rw [hbL (4 + j) (by omega), show 4 + j = j + 4 by omega]; rfl
      have cc := CC k 1 h1 hkN e1 e2
      have mm := MM ⟨by omega, by rw [hb0]; exact hkN, Or.inr (Or.inr ⟨hb1, by omega, by omega, by omega, by omega, fun j j4 jn => by
        obtain ⟨i, rfl⟩ : ∃ i, j = 4 + i := ⟨j - 4, by omega⟩
        rw [hbK i (by omega)]
        have hi : i < K.length := by omega
        rw [List.getD_eq_getElem?_getD, List.getElem?_eq_getElem hi]
        have := h3.2 _ (List.getElem_mem hi)
        simp only [Option.getD_some]
        omega⟩)⟩ k hb0 hkN
      have m0 : m.1 168 0 0 = (k : Int) := by have := hb 0 (by omega); rw [hb0] at this; exact this
      have m1 : m.1 168 0 1 = 1 := by have := hb 1 (by omega); rw [hb1] at this; exact this
      have m2 : m.1 168 0 2 = (w : Int) := by have := hb 2 (by omega); rw [hb2] at this; exact this
      have m3 : m.1 168 0 3 = (K.length : Int) := by have := hb 3 (by omega); rw [hb3] at this; exact this
      obtain ⟨f', c', m', p0, p1, p2, p3, p4, p5⟩ := p_iam (k := (k : Int)) (w := (w : Int)) (K := K) hf (by omega) hh he ⟨by omega, hkN⟩ h3 (by omega) e3 e4 m0 m1 m2 m3 (fun j hj => by have := hb (4 + j) (by omega); rw [hbK j hj] at this; rw [← this]; exact cgI _ _ _ (by omega)) R
      exact ⟨f', c', m', p0, fun k2 => by rw [cc, if_pos (by decide), p1, Option.bind_some], by rw [mm, p2], p3, p4, p5⟩
end SM
