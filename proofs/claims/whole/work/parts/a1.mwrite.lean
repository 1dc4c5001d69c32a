/-! ===== the reference writes a unit ===== -/
theorem m_num2 {v w : Nat} (hv : v < 2 ^ 31) (hw : w ≤ 31) : ∀ (d fu i : Nat) (m : JM) (l : List Nat), i + d = w → d < fu → bst m l → l.length + d ≤ 320 →
    ∃ m', F12_number_2 fu (v : Int) (w : Int) (i : Int) m = some m' ∧ bst m' (l ++ bt (v / 2 ^ i) d) ∧ so w_by m m'
  | _, 0, _, _, _, _, q, _, _ => by omega
  | 0, fu + 1, i, m, l, e, _, hb, _ => by
    refine ⟨m, ?_, by simpa [bt] using hb, so_rfl m⟩
    show F12_number_2b (F12_number_2 fu) _ _ _ m = _
    unfold F12_number_2b
    rw [if_pos (by omega)]
  | d + 1, fu + 1, i, m, l, e, q, hb, hl => by
    have hi : i < 32 := by omega
    have c1 : ¬ (w : Int) ≤ (i : Int) := by omega
    have cl : l.length < 320 := by omega
    have c2 : (0 : Int) ≤ (l.length : Int) ∧ (l.length : Int) < 320 := by omega
    have wi : w32 ((i : Int) + 1) = ((i + 1 : Nat) : Int) := by rw [w32_of (by omega) (by omega)]; omega
    have wl : w32 ((l.length : Int) + 1) = ((l.length + 1 : Nat) : Int) := by rw [w32_of (by omega) (by omega)]; omega
    have ih := fun m' l' => m_num2 hv hw d fu (i + 1) m' l' (by omega) (by omega)
    have hl2 : l.length + 1 + d ≤ 320 := by omega
    have vb := v_bit (v := v) (i := i) hv hi
    have hb2 : v / 2 ^ i % 2 < 2 := Nat.mod_lt _ (by decide)
    have ebt : l ++ bt (v / 2 ^ i) (d + 1) = (l ++ [v / 2 ^ i % 2]) ++ bt (v / 2 ^ (i + 1)) d := by
      rw [List.append_assoc, Nat.pow_succ, ← Nat.div_div_eq_div_mul]; rfl
    generalize v / 2 ^ i % 2 = b at vb hb2 ebt
    obtain ⟨m', x1, x2, x3⟩ := ih _ _ (bst_push hb hb2 cl) (by simp; omega)
    refine ⟨m', ?_, by rw [ebt]; exact x2, so_tr (so_I (so_I (so_rfl m) rfl _ _) rfl _ _) x3⟩
    show F12_number_2b (F12_number_2 fu) _ _ _ m = _
    unfold F12_number_2b
    rw [if_neg c1, hb.2.1, wl, lt_d, g_t c2, vb, lt_d, wi]
    exact x1
theorem m_num {v w : Nat} (hv : v < 2 ^ 31) (hw : w ≤ 31) {m : JM} {l : List Nat} (hb : bst m l) (hl : l.length + w ≤ 320) : ∃ m', F12_number (v : Int) (w : Int) m = some m' ∧ bst m' (l ++ bt v w) ∧ so w_by m m' := by
  obtain ⟨m', x1, x2, x3⟩ := m_num2 hv hw w j_fu 0 m l (by omega) (by unfold j_fu; omega) hb hl
  exact ⟨m', x1, by simpa using x2, x3⟩
/-- the reference's unit so far -/
def ust (m : JM) (P : List Nat) : Prop := ar (m.1 169 0) P ∧ m.1 12 0 70 = (P.length : Int)
def w_ub (k : Nat) (j : Int) : Bool := k == 169 || (k == 12 && j == 70)
theorem ust_push {m : JM} {P : List Nat} (h : ust m P) {b : Nat} {v : Int} (hv : v = (b : Int)) : ust (sI (sI m 12 0 70 ((P.length + 1 : Nat) : Int)) 169 0 (P.length : Int) v) (P ++ [b]) := by
  refine ⟨ar_snoc (ar_cg h.1 (fun j hj => ?_)) ?_, ?_⟩
  · rw [rI_o (by omega), rI_o (by omega)]
  · rw [rI_s, hv]
  · rw [rI_o (by omega), rI_s]; simp
theorem m_flag2 : ∀ (d fu i : Nat) (m : JM) (P : List Nat), i + d = 8 → d < fu → ust m P → P.length + d ≤ 320 →
    ∃ m', F12_flag_2 fu (i : Int) m = some m' ∧ ust m' (P ++ flg.drop i) ∧ so w_ub m m'
  | _, 0, _, _, _, _, q, _, _ => by omega
  | 0, fu + 1, i, m, P, e, _, h1, _ => by
    have : i = 8 := by omega
    subst this
    refine ⟨m, ?_, by simpa [flg] using h1, so_rfl m⟩
    show F12_flag_2b (F12_flag_2 fu) _ m = _
    unfold F12_flag_2b
    rw [if_pos (by omega)]
  | d + 1, fu + 1, i, m, P, e, q, h1, h3 => by
    have e1 := flg_at i (by omega)
    have wi : w32 ((i : Int) + 1) = ((i + 1 : Nat) : Int) := by rw [w32_of (by omega) (by omega)]; omega
    have wp : w32 ((P.length : Int) + 1) = ((P.length + 1 : Nat) : Int) := by rw [w32_of (by omega) (by omega)]; omega
    have c2 : (0 : Int) ≤ (P.length : Int) ∧ (P.length : Int) < 320 := by omega
    obtain ⟨b, hb⟩ : ∃ b : Nat, b = if i = 0 ∨ i = 7 then 0 else 1 := ⟨_, rfl⟩
    rw [← hb] at e1
    obtain ⟨m', x1, x2, x3⟩ := m_flag2 d fu (i + 1) _ (P ++ [b]) (by omega) (by omega) (ust_push (v := (b : Int)) h1 rfl) (by simp; omega)
    refine ⟨m', ?_, by rw [e1, show P ++ b :: flg.drop (i + 1) = P ++ [b] ++ flg.drop (i + 1) by simp]; exact x2, so_tr (so_I (so_I (so_rfl m) rfl _ _) rfl _ _) x3⟩
    show F12_flag_2b (F12_flag_2 fu) _ m = _
    unfold F12_flag_2b F12_flag_33 F12_flag_38
    rw [if_neg (by omega), h1.2, wp, lt_d, wi]
    by_cases z0 : i = 0
    · rw [if_pos (by omega), Option.bind_some, g_t c2, lt_d, show (sI (sI m 12 0 70 ((P.length + 1 : Nat) : Int)) 169 0 (P.length : Int) 0) = (sI (sI m 12 0 70 ((P.length + 1 : Nat) : Int)) 169 0 (P.length : Int) (b : Int)) by rw [hb, if_pos (Or.inl z0)]; rfl]; exact x1
    · by_cases z7 : i = 7
      · rw [if_neg (by omega), if_pos (by omega), Option.bind_some, g_t c2, lt_d, show (sI (sI m 12 0 70 ((P.length + 1 : Nat) : Int)) 169 0 (P.length : Int) 0) = (sI (sI m 12 0 70 ((P.length + 1 : Nat) : Int)) 169 0 (P.length : Int) (b : Int)) by rw [hb, if_pos (Or.inr z7)]; rfl]; exact x1
      · rw [if_neg (by omega), if_neg (by omega), Option.bind_some, g_t c2, lt_d, show (sI (sI m 12 0 70 ((P.length + 1 : Nat) : Int)) 169 0 (P.length : Int) 1) = (sI (sI m 12 0 70 ((P.length + 1 : Nat) : Int)) 169 0 (P.length : Int) (b : Int)) by rw [hb, if_neg (by omega)]; rfl]; exact x1
theorem m_flag {m : JM} {P : List Nat} (h : ust m P) (hl : P.length + 8 ≤ 320) : ∃ m', F12_flag m = some m' ∧ ust m' (P ++ flg) ∧ so w_ub m m' := m_flag2 8 j_fu 0 m P (by omega) (by unfold j_fu; omega) h hl
theorem stf_1 {o : Nat} (l : List Nat) (h : o ≠ 4) : stf o (1 :: l) = 1 :: stf (o + 1) l := by simp [stf, h]
theorem stf_4 (l : List Nat) : stf 4 (1 :: l) = 1 :: 0 :: stf 0 l := by simp [stf]
theorem stf_0 (o : Nat) (l : List Nat) : stf o (0 :: l) = 0 :: stf 0 l := by simp [stf]
theorem st_n {i o p : Nat} (hi : i < 320) (hp : p + 2 ≤ 320) (ho : o ≤ 4) : ((0 : Int) ≤ (i : Int) ∧ (i : Int) < 320) ∧ ((0 : Int) ≤ (p : Int) ∧ (p : Int) < 320) ∧ ((0 : Int) ≤ ((p + 1 : Nat) : Int) ∧ ((p + 1 : Nat) : Int) < 320) ∧ w32 ((i : Int) + 1) = ((i + 1 : Nat) : Int) ∧ w32 ((p : Int) + 1) = ((p + 1 : Nat) : Int) ∧ w32 (((p + 1 : Nat) : Int) + 1) = ((p + 1 + 1 : Nat) : Int) ∧ w32 ((o : Int) + 1) = ((o + 1 : Nat) : Int) ∧ (o ≠ 4 → ¬ ((o + 1 : Nat) : Int) = 5) ∧ (o = 4 → ((o + 1 : Nat) : Int) = 5) ∧ (o ≠ 4 → o + 1 ≤ 4) := by
  refine ⟨by omega, by omega, by omega, ?_, ?_, ?_, ?_, by omega, by omega, by omega⟩
  · rw [w32_of (by omega) (by omega)]; omega
  · rw [w32_of (by omega) (by omega)]; omega
  · rw [w32_of (by omega) (by omega)]; omega
  · rw [w32_of (by omega) (by omega)]; omega
theorem st_k1 {p s : Nat} (h : p + (s + 1) + 2 ≤ 320) : p + 1 + s + 2 ≤ 320 := by omega
theorem st_k2 {p s : Nat} (h : p + (s + 1 + 1) + 2 ≤ 320) : p + 1 + 1 + s + 2 ≤ 320 := by omega
theorem m_stuff {l : List Nat} : ∀ (d fu i o : Nat) (e : Int) (m : JM) (P : List Nat), i + d = l.length → d < fu → bst m l → ust m P → o ≤ 4 →
    (∀ j, j ≤ d → P.length + (stf o ((l.drop i).take j)).length + 2 ≤ 320) →
    ∃ o' m', F12_sends_260 fu e (o : Int) (i : Int) m = F12_sends_260b (fun _ _ _ _ => none) e o' (l.length : Int) m' ∧ ust m' (P ++ stf o (l.drop i)) ∧ so w_ub m m'
  | _, 0, _, _, _, _, _, _, q, _, _, _, _ => by omega
  | 0, fu + 1, i, o, e, m, P, ei, _, hb, hu, _, _ => by
    refine ⟨(o : Int), m, ?_, ?_, so_rfl m⟩
    · show F12_sends_260b (F12_sends_260 fu) _ _ _ m = _
      rw [show i = l.length by omega]
      unfold F12_sends_260b
      rw [hb.2.1, if_pos (Int.le_refl _), if_pos (Int.le_refl _)]
    · rw [List.drop_of_length_le (by omega)]; simpa [stf] using hu
  | d + 1, fu + 1, i, o, e, m, P, ei, q, hb, hu, ho, hall => by
    have iL : i < l.length := by omega
    have hl3 := hb.2.2.1
    have i320 : i < 320 := Nat.lt_of_lt_of_le iL hl3
    have c1 : ¬ m.1 12 0 83 ≤ (i : Int) := by rw [hb.2.1]; omega
    have oi : i + 1 + d = l.length := by omega
    have dfu : d < fu := by omega
    have pl : P.length + 2 ≤ 320 := hall 0 (Nat.zero_le _)
    obtain ⟨c2, c3, c4, wi, wp, wp2, wo, o5, oe, on4⟩ := st_n i320 pl ho
    have ed := drop_at (U := l) (i := i) iL
    have ej : ∀ j, (l.drop i).take (j + 1) = l.getD i 0 :: (l.drop (i + 1)).take j := fun j => by rw [ed, List.take_succ_cons]
    have hrd := hb.1 i iL
    have hbit := bl_nth hb.2.2.2 i
    have hall' : ∀ j, j ≤ d → P.length + (stf o (l.getD i 0 :: (l.drop (i + 1)).take j)).length + 2 ≤ 320 := fun j hj => by rw [← ej]; exact hall (j + 1) (Nat.succ_le_succ hj)
    rw [ed]
    generalize l.getD i 0 = b at *
    have hu2 := ust_push (b := b) (v := (b : Int)) hu rfl
    have hb2 : ∀ {m' : JM}, so w_ub m m' → bst m' l := fun s => ⟨ar_cg hb.1 (fun j _ => (s 182 0 j rfl).1), by rw [(s 12 0 83 rfl).1]; exact hb.2.1, hb.2.2.1, hb.2.2.2⟩
    have s1 : so w_ub m (sI (sI m 12 0 70 ((P.length + 1 : Nat) : Int)) 169 0 (P.length : Int) (b : Int)) := so_I (so_I (so_rfl m) rfl _ _) rfl _ _
    have st : F12_sends_260 (fu + 1) e (o : Int) (i : Int) m = if (b : Int) = 1 then F12_sends_311 (F12_sends_260 fu) e (i : Int) ((o + 1 : Nat) : Int) (sI (sI m 12 0 70 ((P.length + 1 : Nat) : Int)) 169 0 (P.length : Int) (b : Int)) else F12_sends_311 (F12_sends_260 fu) e (i : Int) 0 (sI (sI m 12 0 70 ((P.length + 1 : Nat) : Int)) 169 0 (P.length : Int) (b : Int)) := by
      show F12_sends_260b (F12_sends_260 fu) _ _ _ m = _
      unfold F12_sends_260b
      rw [if_neg c1, hu.2, wp, lt_d, g_t c2, g_t c3, rI_o (Or.inl (by decide)), hrd, lt_d, g_t c2, rI_o (Or.inl (by decide)), rI_o (Or.inl (by decide)), hrd, wo]
    rw [st]
    unfold F12_sends_311 F12_sends_339
    by_cases z : b = 1
    · subst z
      rw [if_pos (show ((1 : Nat) : Int) = 1 from rfl)]
      by_cases y : o = 4
      · have lp1 : (P ++ [1]).length = P.length + 1 := by simp
        rw [if_pos (oe y), hu2.2, lp1, wp2, lt_d, g_t c4, lt_d, wi]
        have hu3 := ust_push (b := 0) (v := 0) hu2 rfl
        rw [lp1] at hu3
        have s2 := so_I (so_I s1 (k := 12) (j := 70) rfl 0 ((P.length + 1 + 1 : Nat) : Int)) (k := 169) (j := ((P.length + 1 : Nat) : Int)) rfl 0 0
        subst y
        obtain ⟨o', m', x1, x2, x3⟩ := m_stuff d fu (i + 1) 0 e _ (P ++ [1] ++ [0]) oi dfu (hb2 s2) hu3 (Nat.zero_le _) (fun j hj => by
          have := hall' j hj
          rw [stf_4, List.length_cons, List.length_cons] at this
          rw [List.length_append, List.length_append, List.length_singleton, List.length_singleton]
          exact st_k2 this)
        exact ⟨o', m', x1, by rw [stf_4]; simpa using x2, so_tr s2 x3⟩
      · rw [if_neg (o5 y), wi]
        obtain ⟨o', m', x1, x2, x3⟩ := m_stuff d fu (i + 1) (o + 1) e _ (P ++ [1]) oi dfu (hb2 s1) hu2 (on4 y) (fun j hj => by
          have := hall' j hj
          rw [stf_1 _ y, List.length_cons] at this
          rw [List.length_append, List.length_singleton]
          exact st_k1 this)
        exact ⟨o', m', x1, by rw [stf_1 _ y]; simpa using x2, so_tr s1 x3⟩
    · have b0 : b = 0 := by
        rcases Nat.lt_succ_iff_lt_or_eq.1 hbit with h | h
        · exact Nat.lt_one_iff.1 h
        · exact absurd h z
      subst b0
      rw [if_neg (show ¬ ((0 : Nat) : Int) = 1 by decide), if_neg (by decide), wi]
      obtain ⟨o', m', x1, x2, x3⟩ := m_stuff d fu (i + 1) 0 e _ (P ++ [0]) oi dfu (hb2 s1) hu2 (Nat.zero_le _) (fun j hj => by
        have := hall' j hj
        rw [stf_0, List.length_cons] at this
        rw [List.length_append, List.length_singleton]
        exact st_k1 this)
      exact ⟨o', m', x1, by rw [stf_0]; simpa using x2, so_tr s1 x3⟩
theorem m_copy {at' on n : Nat} (ha : at' < 128) (ho : on < 8) (hn : n ≤ 320) : ∀ (d fu i : Nat) (e : Int) (m : JM), i + d = n → d < fu → m.1 12 0 70 = (n : Int) →
    ∃ m', F12_sends_378 fu e (at' : Int) (on : Int) (i : Int) m = F12_sends_378b (fun _ _ _ _ _ => none) e (at' : Int) (on : Int) (n : Int) m' ∧ m'.2 = m.2 ∧ (∀ k n' j, m'.1 k n' j = if k = 171 ∧ n' = 0 ∧ 320 * (at' : Int) + i ≤ j ∧ j < 320 * (at' : Int) + n then m.1 169 0 (j - 320 * (at' : Int)) else if k = 173 ∧ n' = 0 ∧ 320 * (on : Int) + i ≤ j ∧ j < 320 * (on : Int) + n then m.1 169 0 (j - 320 * (on : Int)) else m.1 k n' j)
  | _, 0, _, _, _, _, q, _ => by omega
  | 0, fu + 1, i, e, m, ei, _, h70 => by
    refine ⟨m, ?_, rfl, fun k n' j => by rw [if_neg (by omega), if_neg (by omega)]⟩
    show F12_sends_378b (F12_sends_378 fu) _ _ _ _ m = _
    rw [show i = n by omega]
    unfold F12_sends_378b
    rw [if_pos (by omega), if_pos (by omega)]
  | d + 1, fu + 1, i, e, m, ei, q, h70 => by
    have wi : w32 ((i : Int) + 1) = ((i + 1 : Nat) : Int) := by rw [w32_of (by omega) (by omega)]; omega
    have wa : w32 (w32 (320 * (at' : Int)) + (i : Int)) = 320 * (at' : Int) + i := by rw [w32_of (x := 320 * (at' : Int)) (by omega) (by omega), w32_of (by omega) (by omega)]
    have wo : w32 (w32 (320 * (on : Int)) + (i : Int)) = 320 * (on : Int) + i := by rw [w32_of (x := 320 * (on : Int)) (by omega) (by omega), w32_of (by omega) (by omega)]
    obtain ⟨m', x1, x2, x3⟩ := m_copy ha ho hn d fu (i + 1) e (sI (sI m 171 0 (320 * (at' : Int) + i) (m.1 169 0 (i : Int))) 173 0 (320 * (on : Int) + i) (m.1 169 0 (i : Int))) (by omega) (by omega) (by rw [rI_o (by omega), rI_o (by omega)]; exact h70)
    refine ⟨m', ?_, x2, fun k n' j => ?_⟩
    · show F12_sends_378b (F12_sends_378 fu) _ _ _ _ m = _
      rw [← x1]
      conv => lhs; unfold F12_sends_378b
      rw [if_neg (by omega), wa, wo, g_t (by omega), g_t (by omega), lt_d, g_t (by omega), g_t (by omega), rI_o (by omega), lt_d, wi]
    · rw [x3]
      have r169 : ∀ j, (sI (sI m 171 0 (320 * (at' : Int) + i) (m.1 169 0 (i : Int))) 173 0 (320 * (on : Int) + i) (m.1 169 0 (i : Int))).1 169 0 j = m.1 169 0 j := fun j => by rw [rI_o (by omega), rI_o (by omega)]
      rw [r169, r169]
      by_cases z1 : k = 171 ∧ n' = 0
      · obtain ⟨rfl, rfl⟩ := z1
        by_cases z2 : j = 320 * (at' : Int) + i
        · subst z2
          rw [if_neg (by omega), if_neg (by omega), rI_o (by omega), rI_s, if_pos (by omega)]
          exact cgI _ _ _ (by omega)
        · by_cases z3 : 320 * (at' : Int) + ((i + 1 : Nat) : Int) ≤ j ∧ j < 320 * (at' : Int) + n
          · rw [if_pos (by omega), if_pos (by omega)]
          · rw [if_neg (by omega), if_neg (by omega), rI_o (by omega), rI_o (by omega), if_neg (by omega), if_neg (by omega)]
      · by_cases z4 : k = 173 ∧ n' = 0
        · obtain ⟨rfl, rfl⟩ := z4
          by_cases z2 : j = 320 * (on : Int) + i
          · subst z2
            rw [if_neg (by omega), if_neg (by omega), rI_s, if_neg (by omega), if_pos (by omega)]
            exact cgI _ _ _ (by omega)
          · by_cases z3 : 320 * (on : Int) + ((i + 1 : Nat) : Int) ≤ j ∧ j < 320 * (on : Int) + n
            · rw [if_neg (by omega), if_pos (by omega), if_neg (by omega), if_pos (by omega)]
            · rw [if_neg (by omega), if_neg (by omega), rI_o (by omega), rI_o (by omega), if_neg (by omega), if_neg (by omega)]
        · rw [if_neg (by omega), if_neg (by omega), rI_o (by omega), rI_o (by omega), if_neg (by omega), if_neg (by omega)]
