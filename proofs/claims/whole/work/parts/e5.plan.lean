/-! ===== plans ===== -/
abbrev AC (e l k a : Int) : Prop := (k = 0 ∧ 8 * e ≤ a ∧ a ≤ 8 * e + 7) ∨ ((k = 1 ∨ k = 2) ∧ 0 ≤ a ∧ a ≤ l) ∨ (k = 3 ∧ 0 ≤ a ∧ a ≤ 2) ∨ (k = 4 ∧ 0 ≤ a ∧ a ≤ 1)
section RR1
variable {f : Int → Int} {N z1 z2 X : Int} {sec : Option Int} {Y zd : Int} {c m c' m' : JM} {B : Int}
theorem r_h_cg2 (hc : ∀ k n j, rdC k j = true → k ≠ 6 → c'.1 k n j = c.1 k n j ∧ c'.2.1 k n j = c.2.1 k n j ∧ c'.2.2 k n j = c.2.2 k n j) (hm : ∀ k n j, rdM k = true → k ≠ 105 → m'.1 k n j = m.1 k n j) (hrw : d_rw f c' m') (H : r_h f N z1 z2 X sec Y zd c m) : r_h f N z1 z2 X sec Y zd c' m' := by
  have a0 : ∀ n j, c'.1 0 n j = c.1 0 n j := fun n j => (hc 0 n j rfl (by decide)).1
  have a1 : ∀ n j, c'.2.1 0 n j = c.2.1 0 n j := fun n j => (hc 0 n j rfl (by decide)).2.1
  have a2 : ∀ n j, c'.2.2 0 n j = c.2.2 0 n j := fun n j => (hc 0 n j rfl (by decide)).2.2
  have a3 : ∀ n, c'.1 4 n 6 = c.1 4 n 6 := fun n => (hc 4 n 6 rfl (by decide)).1
  have a4 : ∀ n, c'.2.2 4 n 11 = c.2.2 4 n 11 := fun n => (hc 4 n 11 rfl (by decide)).2.2
  have a5 : ∀ n, c'.2.2 4 n 12 = c.2.2 4 n 12 := fun n => (hc 4 n 12 rfl (by decide)).2.2
  have a6 : ∀ n, c'.2.2 4 n 13 = c.2.2 4 n 13 := fun n => (hc 4 n 13 rfl (by decide)).2.2
  have a8 : ∀ n, c'.1 8 n 2 = c.1 8 n 2 := fun n => (hc 8 n 2 rfl (by decide)).1
  have a9 : ∀ n, c'.2.2 8 n 3 = c.2.2 8 n 3 := fun n => (hc 8 n 3 rfl (by decide)).2.2
  have b119 : ∀ j, m'.1 119 0 j = m.1 119 0 j := fun j => hm 119 0 j rfl (by decide)
  have b120 : ∀ j, m'.1 120 0 j = m.1 120 0 j := fun j => hm 120 0 j rfl (by decide)
  have b121 : ∀ j, m'.1 121 0 j = m.1 121 0 j := fun j => hm 121 0 j rfl (by decide)
  have b133 : ∀ j, m'.1 133 0 j = m.1 133 0 j := fun j => hm 133 0 j rfl (by decide)
  have b135 : ∀ j, m'.1 135 0 j = m.1 135 0 j := fun j => hm 135 0 j rfl (by decide)
  have b136 : ∀ j, m'.1 136 0 j = m.1 136 0 j := fun j => hm 136 0 j rfl (by decide)
  have b137 : ∀ j, m'.1 137 0 j = m.1 137 0 j := fun j => hm 137 0 j rfl (by decide)
  have b138 : ∀ j, m'.1 138 0 j = m.1 138 0 j := fun j => hm 138 0 j rfl (by decide)
  have b139 : ∀ j, m'.1 139 0 j = m.1 139 0 j := fun j => hm 139 0 j rfl (by decide)
  have b140 : ∀ j, m'.1 140 0 j = m.1 140 0 j := fun j => hm 140 0 j rfl (by decide)
  have b141 : ∀ j, m'.1 141 0 j = m.1 141 0 j := fun j => hm 141 0 j rfl (by decide)
  have b142 : ∀ j, m'.1 142 0 j = m.1 142 0 j := fun j => hm 142 0 j rfl (by decide)
  have b143 : ∀ j, m'.1 143 0 j = m.1 143 0 j := fun j => hm 143 0 j rfl (by decide)
  have b144 : ∀ j, m'.1 144 0 j = m.1 144 0 j := fun j => hm 144 0 j rfl (by decide)
  have b145 : ∀ j, m'.1 145 0 j = m.1 145 0 j := fun j => hm 145 0 j rfl (by decide)
  have b146 : ∀ j, m'.1 146 0 j = m.1 146 0 j := fun j => hm 146 0 j rfl (by decide)
  have b147 : ∀ j, m'.1 147 0 j = m.1 147 0 j := fun j => hm 147 0 j rfl (by decide)
  have b148 : ∀ j, m'.1 148 0 j = m.1 148 0 j := fun j => hm 148 0 j rfl (by decide)
  have b154 : ∀ j, m'.1 154 0 j = m.1 154 0 j := fun j => hm 154 0 j rfl (by decide)
  have b155 : ∀ j, m'.1 155 0 j = m.1 155 0 j := fun j => hm 155 0 j rfl (by decide)
  unfold r_h d_st d_sx d_hm d_sa d_sb d_gp d_ky d_k1 d_fw d_fr d_ce d_an d_zn d_la d_lo d_lr d_wa d_wo d_wx d_wr d_w3 d_w4 d_w8 d_w9 d_w5 d_t1 d_t2 d_t3 d_t6 d_t9 d_ty d_xx d_zr lv at H ⊢
  simp only [a0, a1, a2, a3, a4, a5, a6, a8, a9, b119, b120, b121, b133, b135, b136, b137, b138, b139, b140, b141, b142, b143, b144, b145, b146, b147, b148, b154, b155]
  obtain ⟨p0, p1, p2, p3, p4, p5, p6, p7, p8, p9, p10, p11, p12, p13, p14, p15, p16, p17, p18, p19, p20, p21, p22, p23, p24, p25, p26, p27, p28, p29, p30, p31, p32, p33⟩ := H
  exact ⟨p0, p1, p2, p3, p4, p5, p6, p7, p8, p9, p10, p11, p12, hrw, p14, p15, p16, p17, p18, p19, p20, p21, p22, p23, p24, p25, p26, p27, p28, p29, p30, p31, p32, p33⟩
theorem f_isArg {e l k a : Int} (he : e = 0 ∨ e = 1) (c : JM) : F11_isArg e l k a c = some (if AC e l k a then 1 else 0, c) := by
  unfold F11_isArg F11_isArg_55
  by_cases k0 : k = 0
  · rw [if_pos k0, f_isL, Option.bind_some]
    dsimp only
    by_cases h : 0 ≤ a ∧ a ≤ 15
    · have ed : j_div a 8 = a / 8 := i_div (by omega) (by omega) (by omega) (by omega)
      rw [if_pos (c := 0 ≤ a ∧ a ≤ 15) h, if_neg (show ¬ (1 : Int) = 0 by decide), ed]
      by_cases z : a / 8 = e
      · rw [if_pos z, if_pos (Or.inl ⟨k0, by omega, by omega⟩)]
      · rw [if_neg z, if_neg (by unfold AC; omega)]
    · rw [if_neg (c := 0 ≤ a ∧ a ≤ 15) h, if_pos (show (0 : Int) = 0 from rfl), if_neg (by unfold AC; omega)]
  · rw [if_neg k0]
    have st : ∀ b : Int, (F11_isWithin a 0 b c).bind (fun q2 => g_ (q2.1 = 0 ∨ q2.1 = 1) (some (q2.1, q2.2))) = some (if 0 ≤ a ∧ a ≤ b then 1 else 0, c) := fun b => by
      rw [f_within, Option.bind_some]
      dsimp only
      by_cases h : 0 ≤ a ∧ a ≤ b
      · rw [if_pos h, g_t (Or.inr rfl)]
      · rw [if_neg h, g_t (Or.inl rfl)]
    rw [st, st, st]
    have fi : ∀ P Q : Prop, [Decidable P] → [Decidable Q] → (P ↔ Q) → (some ((if P then 1 else 0 : Int), c) : Option (Int × JM)) = some ((if Q then 1 else 0 : Int), c) := fun P Q _ _ h => by
      by_cases p : P
      · rw [if_pos p, if_pos (h.1 p)]
      · rw [if_neg p, if_neg (fun q => p (h.2 q))]
    by_cases k1 : k = 1
    · rw [if_pos k1]; exact fi _ _ (by unfold AC; omega)
    · rw [if_neg k1]
      by_cases k2 : k = 2
      · rw [if_pos k2]; exact fi _ _ (by unfold AC; omega)
      · rw [if_neg k2]
        by_cases k3 : k = 3
        · rw [if_pos k3]; exact fi _ _ (by unfold AC; omega)
        · rw [if_neg k3]
          by_cases k4 : k = 4
          · rw [if_pos k4]; exact fi _ _ (by unfold AC; omega)
          · rw [if_neg k4, if_neg (by unfold AC; omega)]
theorem m_arg {e l k a z : Int} (he : e = 0 ∨ e = 1) (hk : 0 ≤ k ∧ k ≤ 4) : (if k = 0 then (F12_in a (w32 (8 * e)) (w32 (w32 (8 * e) + 7)) m).bind (fun q18 => F12_plan_130 e l k a z q18.1 q18.2) else if 3 ≤ k then (if k = 3 then (F12_in a 0 2 m).bind (fun q16 => F12_plan_130 e l k a z q16.1 q16.2) else (F12_in a 0 1 m).bind (fun q15 => F12_plan_130 e l k a z q15.1 q15.2)) else (F12_in a 0 l m).bind (fun q17 => F12_plan_130 e l k a z q17.1 q17.2)) = F12_plan_130 e l k a z (if AC e l k a then 1 else 0) m := by
  have w1 : w32 (8 * e) = 8 * e := w32_of (by omega) (by omega)
  have w2 : w32 (8 * e + 7) = 8 * e + 7 := w32_of (by omega) (by omega)
  have fi : ∀ P Q : Prop, [Decidable P] → [Decidable Q] → (P ↔ Q) → F12_plan_130 e l k a z (if P then 1 else 0) m = F12_plan_130 e l k a z (if Q then 1 else 0) m := fun P Q _ _ h => by
    by_cases p : P
    · rw [if_pos p, if_pos (h.1 p)]
    · rw [if_neg p, if_neg (fun q => p (h.2 q))]
  rw [w1, w2, m_in, m_in, m_in, m_in, Option.bind_some, Option.bind_some, Option.bind_some, Option.bind_some]
  dsimp only
  by_cases k0 : k = 0
  · rw [if_pos k0]; exact fi _ _ (by unfold AC; omega)
  · rw [if_neg k0]
    by_cases k3 : 3 ≤ k
    · rw [if_pos k3]
      by_cases k4 : k = 3
      · rw [if_pos k4]; exact fi _ _ (by unfold AC; omega)
      · rw [if_neg k4]; exact fi _ _ (by unfold AC; omega)
    · rw [if_neg k3]; exact fi _ _ (by unfold AC; omega)
theorem m_187 {k143 : Int → Int → Int → Int → Int → Int → JM → Option (Int × JM)} {l1 l2 l3 l4 l5 l7 r n : Int} (hr : 0 ≤ r ∧ r < 48) (hn : n ≤ 12) (e : m.1 12 0 4 = n) : ∀ (d fu : Nat) (j l9 : Int), 0 ≤ j → j + d = n → d < fu → l9 = 0 ∨ l9 = 1 →
    ∃ v, (v = 0 ∨ v = 1) ∧ (v = 1 ↔ l9 = 1 ∧ ∀ i, j ≤ i → i < n → m.1 106 0 (12 * r + i) = m.1 103 0 i) ∧ F12_plan_187 k143 fu l1 l2 l3 l4 l5 l7 r l9 j m = F12_plan_237 k143 l1 l2 l3 l4 l5 l7 v m
  | _, 0, _, _, _, _, q, _ => by omega
  | 0, fu + 1, j, l9, j0, q, _, h9 => by
    refine ⟨l9, h9, ⟨fun t => ⟨t, fun i a b => by omega⟩, fun t => t.1⟩, ?_⟩
    show F12_plan_187b k143 (F12_plan_187 k143 fu) l1 l2 l3 l4 l5 l7 r l9 j m = _
    unfold F12_plan_187b
    rw [if_pos (by omega)]
  | d + 1, fu + 1, j, l9, j0, q, h, h9 => by
    have w1 : w32 (w32 (12 * r) + j) = 12 * r + j := by rw [w32_of (x := 12 * r) (by omega) (by omega), w32_of (by omega) (by omega)]
    have w2 : w32 (j + 1) = j + 1 := w32_of (by omega) (by omega)
    have st : F12_plan_187 k143 (fu + 1) l1 l2 l3 l4 l5 l7 r l9 j m = if l9 = 0 then F12_plan_237 k143 l1 l2 l3 l4 l5 l7 l9 m else F12_plan_187 k143 fu l1 l2 l3 l4 l5 l7 r (if m.1 106 0 (12 * r + j) = m.1 103 0 j then 1 else 0) (j + 1) m := by
      show F12_plan_187b k143 (F12_plan_187 k143 fu) l1 l2 l3 l4 l5 l7 r l9 j m = _
      unfold F12_plan_187b F12_plan_229
      rw [if_neg (by omega), w1, w2, g_t (by omega), g_t (by omega)]
      by_cases z : m.1 106 0 (12 * r + j) = m.1 103 0 j
      · rw [if_pos z, if_pos z]
      · rw [if_neg z, if_neg z]
    rw [st]
    by_cases y : l9 = 0
    · rw [if_pos y]
      exact ⟨l9, h9, ⟨fun t => by omega, fun t => t.1⟩, rfl⟩
    · rw [if_neg y]
      by_cases z : m.1 106 0 (12 * r + j) = m.1 103 0 j
      · rw [if_pos z]
        obtain ⟨v, v1, v2, v3⟩ := m_187 (k143 := k143) (l1 := l1) (l2 := l2) (l3 := l3) (l4 := l4) (l5 := l5) (l7 := l7) hr hn e d fu (j + 1) 1 (by omega) (by omega) (by omega) (Or.inr rfl)
        refine ⟨v, v1, ⟨fun t => ⟨by omega, fun i a b => ?_⟩, fun t => v2.2 ⟨rfl, fun i a b => t.2 i (by omega) b⟩⟩, v3⟩
        by_cases x : i = j
        · rw [x]; exact z
        · exact (v2.1 t).2 i (by omega) b
      · rw [if_neg z]
        obtain ⟨v, v1, v2, v3⟩ := m_187 (k143 := k143) (l1 := l1) (l2 := l2) (l3 := l3) (l4 := l4) (l5 := l5) (l7 := l7) hr hn e d fu (j + 1) 0 (by omega) (by omega) (by omega) (Or.inl rfl)
        exact ⟨v, v1, ⟨fun t => absurd (v2.1 t).1 (by decide), fun t => absurd (t.2 j (by omega) (by omega)) z⟩, v3⟩
theorem k_same {x y n n' : Int} {g g' : Int → Int} (h : k_R x n g) (h' : k_R y n' g') : x = y ↔ n = n' ∧ ∀ i, 0 ≤ i → i < n → g i = g' i := by
  obtain ⟨K, a1, a2, a3, a4⟩ := h
  obtain ⟨K', b1, b2, b3, b4⟩ := h'
  have e : x = y ↔ K = K' := by
    rw [a2, b2, ← k_P_inj a1 b1]; omega
  rw [e]
  constructor
  · intro q
    subst q
    refine ⟨by rw [a3, b3], fun i i0 i1 => ?_⟩
    obtain ⟨k, rfl⟩ := Int.eq_ofNat_of_zero_le i0
    rw [a4 k (by omega), b4 k (by omega)]
  · intro ⟨q1, q2⟩
    apply List.ext_getElem
    · omega
    · intro k k1 k2
      have t := q2 (k : Int) (by omega) (by omega)
      rw [a4 k k1, b4 k k2, List.getD_eq_getElem?_getD, List.getD_eq_getElem?_getD, List.getElem?_eq_getElem k1, List.getElem?_eq_getElem k2] at t
      have t2 : ((K[k]) : Int) = ((K'[k]) : Int) := t
      omega
theorem p_rows {e x n cnt l1 l2 l3 l4 : Int} (he : e = 0 ∨ e = 1) (hx : k_R x n (fun j => m.1 103 0 j)) (em : m.1 12 0 4 = n) (hp : m.1 105 0 e = cnt ∧ c.1 1 e 4 = cnt ∧ 0 ≤ cnt ∧ cnt ≤ 24) (hr : ∀ i, 0 ≤ i → i < cnt → c.2.2 22 e i = some (24 * e + i) ∧ k_R (c.2.1 6 (24 * e + i) 0) (m.1 107 0 (24 * e + i)) (fun j => m.1 106 0 (12 * (24 * e + i) + j))) : ∀ (d fu fu2 : Nat) (i : Int), 0 ≤ i → i + d = cnt → d < fu → d < fu2 →
    (F1_hasPrefix_2 fu e x i c = some (1, c) ∧ F12_plan_143 fu2 e l1 l2 l3 l4 i m = some (-2, m)) ∨ (F1_hasPrefix_2 fu e x i c = some (0, c) ∧ F12_plan_143 fu2 e l1 l2 l3 l4 i m = F12_plan_143b (fun _ _ _ _ _ _ _ => none) e l1 l2 l3 l4 cnt m)
  | _, 0, _, _, _, _, q, _ => by omega
  | _, _, 0, _, _, _, _, q => by omega
  | 0, fu + 1, fu2 + 1, i, i0, q, _, _ => by
    refine Or.inr ⟨?_, ?_⟩
    · show F1_hasPrefix_2b (F1_hasPrefix_2 fu) e x i c = _
      unfold F1_hasPrefix_2b
      rw [if_pos (by omega)]
    · show F12_plan_143b (F12_plan_143 fu2) e l1 l2 l3 l4 i m = _
      rw [show i = cnt by omega]
      unfold F12_plan_143b
      rw [hp.1, if_pos (Int.le_refl cnt), if_pos (Int.le_refl cnt)]
  | d + 1, fu + 1, fu2 + 1, i, i0, q, a, b => by
    obtain ⟨K, kk1, kk2, kk3, kk4⟩ := id hx
    have hn : n ≤ 12 ∧ 0 ≤ n := by have := kk1.1; omega
    have w1 : w32 (i + 1) = i + 1 := w32_of (by omega) (by omega)
    have w3 : w32 (w32 (24 * e) + i) = 24 * e + i := by rw [w32_of (x := 24 * e) (by omega) (by omega), w32_of (by omega) (by omega)]
    obtain ⟨t1, t2⟩ := hr i i0 (by omega)
    have sm := k_same t2 hx
    have s1 : F1_hasPrefix_2 (fu + 1) e x i c = if c.2.1 6 (24 * e + i) 0 = x then some (1, c) else F1_hasPrefix_2 fu e x (i + 1) c := by
      show F1_hasPrefix_2b (F1_hasPrefix_2 fu) e x i c = _
      unfold F1_hasPrefix_2b
      rw [if_neg (by omega), g_t (by omega), t1, Option.bind_some, w1]
      by_cases z : c.2.1 6 (24 * e + i) 0 = x
      · rw [if_pos (lc_eq.2 z), if_pos z]
      · rw [if_neg (fun y => z (lc_eq.1 y)), if_neg z]
    have s2 : ∃ v, (v = 0 ∨ v = 1) ∧ (v = 1 ↔ m.1 107 0 (24 * e + i) = n ∧ ∀ j, 0 ≤ j → j < n → m.1 106 0 (12 * (24 * e + i) + j) = m.1 103 0 j) ∧ F12_plan_143 (fu2 + 1) e l1 l2 l3 l4 i m = F12_plan_237 (F12_plan_143 fu2) e l1 l2 l3 l4 i v m := by
      have st : F12_plan_143 (fu2 + 1) e l1 l2 l3 l4 i m = F12_plan_187 (F12_plan_143 fu2) j_fu e l1 l2 l3 l4 i (24 * e + i) (if m.1 107 0 (24 * e + i) = n then 1 else 0) 0 m := by
        show F12_plan_143b (F12_plan_143 fu2) e l1 l2 l3 l4 i m = _
        unfold F12_plan_143b F12_plan_182
        rw [g_t (by omega), if_neg (by omega), w3, lt_d, g_t (by omega), em]
        by_cases z : m.1 107 0 (24 * e + i) = n
        · rw [if_pos z, if_pos z]
        · rw [if_neg z, if_neg z]
      rw [st]
      obtain ⟨v, v1, v2, v3⟩ := m_187 (m := m) (k143 := F12_plan_143 fu2) (l1 := e) (l2 := l1) (l3 := l2) (l4 := l3) (l5 := l4) (l7 := i) (r := 24 * e + i) (n := n) (by omega) hn.1 em n.toNat j_fu 0 (if m.1 107 0 (24 * e + i) = n then 1 else 0) (by omega) (by omega) (by unfold j_fu; omega) (by split <;> simp)
      refine ⟨v, v1, ?_, v3⟩
      rw [v2]
      by_cases z : m.1 107 0 (24 * e + i) = n
      · rw [if_pos z]; exact ⟨fun t => ⟨z, t.2⟩, fun t => ⟨rfl, t.2⟩⟩
      · rw [if_neg z]; exact ⟨fun t => absurd t.1 (by decide), fun t => absurd t.1 z⟩
    obtain ⟨v, v1, v2, v3⟩ := s2
    rw [s1, v3]
    unfold F12_plan_237
    by_cases z : c.2.1 6 (24 * e + i) 0 = x
    · have q := sm.1 z
      have vv : v = 1 := v2.2 ⟨q.1, fun j a b => q.2 j a (by omega)⟩
      rw [if_pos z, if_neg (by omega)]
      exact Or.inl ⟨rfl, rfl⟩
    · have vv : v = 0 := by
        rcases v1 with v1 | v1
        · exact v1
        · obtain ⟨y1, y2⟩ := v2.1 v1
          exact absurd (sm.2 ⟨y1, fun j a b => y2 j a (by omega)⟩) z
      rw [if_neg z, if_pos vv, w1]
      exact p_rows he hx em hp hr d fu fu2 (i + 1) (by omega) (by omega) (by omega) (by omega)
theorem m_281 {l1 l2 l3 l4 l5 p n : Int} (hp : 0 ≤ p ∧ p < 48) (hn : 0 ≤ n ∧ n ≤ 12) : ∀ (d : Nat) (fu : Nat) (i : Int) (h : JM), 0 ≤ i → i + d = n → d < fu → h.1 12 0 4 = n →
    ∃ h', F12_plan_281 fu l1 l2 l3 l4 l5 p i h = F12_plan_281b (fun _ _ _ _ _ _ _ _ => none) l1 l2 l3 l4 l5 p n h' ∧ h'.2 = h.2 ∧ ∀ k n' j, h'.1 k n' j = if k = 106 ∧ n' = 0 ∧ 12 * p + i ≤ j ∧ j < 12 * p + n then h.1 103 0 (j - 12 * p) else h.1 k n' j
  | _, 0, _, _, _, _, q, _ => by omega
  | 0, fu + 1, i, h, i0, e, _, h3 => by
    refine ⟨h, ?_, rfl, fun k n' j => by rw [if_neg (by omega)]⟩
    show F12_plan_281b (F12_plan_281 fu) l1 l2 l3 l4 l5 p i h = _
    rw [show i = n by omega]
    unfold F12_plan_281b
    rw [if_pos (by omega), if_pos (by omega)]
  | d + 1, fu + 1, i, h, i0, e, q, h3 => by
    have w1 : w32 (i + 1) = i + 1 := w32_of (by omega) (by omega)
    have w2 : w32 (12 * p) = 12 * p := w32_of (by omega) (by omega)
    have w3 : w32 (12 * p + i) = 12 * p + i := w32_of (by omega) (by omega)
    obtain ⟨h', y1, y2, y3⟩ := m_281 (l1 := l1) (l2 := l2) (l3 := l3) (l4 := l4) (l5 := l5) hp hn d fu (i + 1) (sI h 106 0 (12 * p + i) (h.1 103 0 i)) (by omega) (by omega) (by omega) (by rw [rI_o (by omega)]; exact h3)
    refine ⟨h', ?_, y2, fun k n' j => ?_⟩
    · show F12_plan_281b (F12_plan_281 fu) l1 l2 l3 l4 l5 p i h = _
      rw [← y1]
      conv => lhs; unfold F12_plan_281b
      rw [if_neg (by omega), w2, w3, w1, g_t (by omega), g_t (by omega), lt_d]
    · rw [y3]
      by_cases z : k = 106 ∧ n' = 0
      · obtain ⟨rfl, rfl⟩ := z
        by_cases z2 : j = 12 * p + i
        · subst z2; rw [if_neg (by omega), rI_s, if_pos (by omega)]; exact cgI _ _ _ (by omega)
        · by_cases z3 : 12 * p + (i + 1) ≤ j ∧ j < 12 * p + n
          · rw [if_pos (by omega), rI_o (by omega), if_pos (by omega)]
          · rw [if_neg (by omega), rI_o (by omega), if_neg (by omega)]
      · rw [if_neg (by omega), rI_o (by omega), if_neg (by omega)]
end RR1
