/-! ===== the next member; an idle circuit ===== -/
def gd (q : Int) (c : JM) (l : Int) : Prop := 0 ≤ l ∧ l < 16 ∧ 8 * (q / 3) ≤ l ∧ l < 8 * (q / 3) + 8 ∧ c.1 4 l 6 = 0 ∧ c.2.2 4 l 13 = none ∧ c.1 4 l 7 = 0
section RN
variable {f : Int → Int} {N z1 z2 X : Int} {sec : Option Int} {Y zd : Int} {c m c' m' : JM} {B B' : Int} {H : HT}
theorem f_free {c : JM} (l : Int) : F4_isFree l c = some (if c.1 4 l 6 = 0 ∧ c.2.2 4 l 13 = none then 1 else 0, c) := by
  unfold F4_isFree F4_isFree_18
  by_cases a : c.1 4 l 6 = 0 <;> by_cases b : c.2.2 4 l 13 = none <;> simp [a, b]
theorem m_free {m : JM} {l : Int} (h : 0 ≤ l ∧ l < 16) : F12_isFree l m = some (if m.1 112 0 l = 0 ∧ m.1 121 0 l = -1 then 1 else 0, m) := by
  unfold F12_isFree F12_isFree_23
  rw [g_t h, g_t h]
  by_cases a : m.1 112 0 l = 0 <;> by_cases b : m.1 121 0 l = -1 <;> simp [a, b]
theorem nx_loop (R5 : r_q f B c m) {q : Int} (q0 : 0 ≤ q) (q1 : q < 6) (hfr : ∀ l, 0 ≤ l → l < 16 → ((m.1 112 0 l = 0 ∧ m.1 121 0 l = -1) ↔ (c.1 4 l 6 = 0 ∧ c.2.2 4 l 13 = none)) ∧ m.1 124 0 l = c.1 4 l 7 ∧ m.1 125 0 l = c.1 4 l 16) :
    ∀ (d : Nat) (fu fu' : Nat) (i : Int) (a : Option Int) (b : Int), 0 ≤ i → i + d = m.1 150 0 q → d < fu → d < fu' → ((a = none ∧ b = -1) ∨ (a = some b ∧ gd q c b)) →
    ∃ a' b', F2_nextMember_4 fu q a i c = some (a', c) ∧ F12_ready_4 fu' q b i m = some (b', m) ∧ ((a' = none ∧ b' = -1) ∨ (a' = some b' ∧ gd q c b'))
  | _, 0, _, _, _, _, _, _, h, _, _ => by omega
  | _, _ + 1, 0, _, _, _, _, _, _, h, _ => by omega
  | d, fu + 1, fu' + 1, i, a, b, i0, hd, h1, h2, inv => by
    obtain ⟨e1, _, _⟩ := R5.1 q
    obtain ⟨p1, p2, p3, _⟩ := R5.2.1 q q0 q1
    show ∃ a' b', F2_nextMember_4b (F2_nextMember_4 fu) q a i c = some (a', c) ∧ F12_ready_4b (F12_ready_4 fu') q b i m = some (b', m) ∧ _
    by_cases c1 : m.1 150 0 q ≤ i
    · refine ⟨a, b, ?_, ?_, inv⟩
      · unfold F2_nextMember_4b
        rw [← e1, if_pos c1]
      · unfold F12_ready_4b
        rw [g_t (show 0 ≤ q ∧ q < 6 from ⟨q0, q1⟩), if_pos c1]
    · obtain ⟨x1, x2, x3⟩ := p3 i i0 (by omega)
      have hi8 : 0 ≤ i ∧ i < 8 := by omega
      have hi48 : 0 ≤ 8 * q + i ∧ 8 * q + i < 48 := by omega
      have hd1 : i + 1 + ((d - 1 : Nat) : Int) = m.1 150 0 q := by omega
      have hf1 : d - 1 < fu := by omega
      have hf2 : d - 1 < fu' := by omega
      have ih := fun a b => nx_loop R5 q0 q1 hfr (d - 1) fu fu' (i + 1) a b (by omega) hd1 hf1 hf2
      have w1 : w32 (8 * q) = 8 * q := w32_of (by omega) (by omega)
      have w2 : w32 (8 * q + i) = 8 * q + i := w32_of (by omega) (by omega)
      have w3 : w32 (i + 1) = i + 1 := w32_of (by omega) (by omega)
      generalize hl : m.1 149 0 (8 * q + i) = l at *
      have hl2 : 0 ≤ l ∧ l < 16 := by omega
      obtain ⟨y1, y2, y3⟩ := hfr l hl2.1 hl2.2
      have u1 : ∀ k, F2_nextMember_4b k q a i c = (if (if c.1 4 l 6 = 0 ∧ c.2.2 4 l 13 = none then (1 : Int) else 0) = 0 then k q a (i + 1) c else if c.1 4 l 7 = 0 then (if a = none then k q (some l) (i + 1) c else a.bind (fun a3 => if c.1 4 a3 16 ≤ c.1 4 l 16 then k q (some a3) (i + 1) c else k q (some l) (i + 1) c)) else k q a (i + 1) c) := fun k => by
        unfold F2_nextMember_4b F2_nextMember_48 F2_nextMember_50
        rw [← e1, if_neg c1, g_t hi8, x1, Option.bind_some, f_free, Option.bind_some, w3]
      have u2 : ∀ k, F12_ready_4b k q b i m = (if (if c.1 4 l 6 = 0 ∧ c.2.2 4 l 13 = none then (1 : Int) else 0) = 0 then k q b (i + 1) m else if c.1 4 l 7 = 0 then (if b = -1 then k q l (i + 1) m else g_ (0 ≤ b ∧ b < 16) (if m.1 125 0 b ≤ c.1 4 l 16 then k q b (i + 1) m else k q l (i + 1) m)) else k q b (i + 1) m) := fun k => by
        unfold F12_ready_4b F12_ready_67 F12_ready_70
        rw [g_t (show 0 ≤ q ∧ q < 6 from ⟨q0, q1⟩), if_neg c1, w1, w2, g_t hi48, lt_d, hl, m_free hl2, Option.bind_some, w3]
        simp only [y1]
        rw [g_t hl2, g_t hl2, y2, y3]
      rw [u1, u2]
      by_cases c2 : c.1 4 l 6 = 0 ∧ c.2.2 4 l 13 = none
      · rw [if_pos c2, if_neg (show ¬ ((1 : Int) = 0) by decide), if_neg (show ¬ ((1 : Int) = 0) by decide)]
        by_cases c3 : c.1 4 l 7 = 0
        · have g1 : gd q c l := ⟨hl2.1, hl2.2, x2, x3, c2.1, c2.2, c3⟩
          rw [if_pos c3, if_pos c3]
          rcases inv with ⟨rfl, rfl⟩ | ⟨rfl, gb⟩
          · rw [if_pos rfl, if_pos rfl]
            exact ih _ _ (Or.inr ⟨rfl, g1⟩)
          · have hb : 0 ≤ b ∧ b < 16 := ⟨gb.1, gb.2.1⟩
            rw [if_neg (show ¬ (some b = none) by simp), if_neg (show ¬ b = -1 by omega), g_t hb, Option.bind_some, (hfr b hb.1 hb.2).2.2]
            by_cases c4 : c.1 4 b 16 ≤ c.1 4 l 16
            · rw [if_pos c4, if_pos c4]
              exact ih _ _ (Or.inr ⟨rfl, gb⟩)
            · rw [if_neg c4, if_neg c4]
              exact ih _ _ (Or.inr ⟨rfl, g1⟩)
        · rw [if_neg c3, if_neg c3]
          exact ih _ _ inv
      · rw [if_neg c2, if_pos rfl, if_pos rfl]
        exact ih _ _ inv
theorem free_of (hf : f_ok f) (R2 : r_l (-1) c m) (R3 : r_h f N z1 z2 X sec Y zd c m) : ∀ l, 0 ≤ l → l < 16 → ((m.1 112 0 l = 0 ∧ m.1 121 0 l = -1) ↔ (c.1 4 l 6 = 0 ∧ c.2.2 4 l 13 = none)) ∧ m.1 124 0 l = c.1 4 l 7 ∧ m.1 125 0 l = c.1 4 l 16 := fun l a b => by
  have h := R2 l
  have hlr := R3.2.2.2.2.2.2.2.2.2.2.2.2.2.2.2.2.1 l a b
  rw [hlr, rf_no hf, h.1]
  exact ⟨Iff.rfl, h.2.2.2.2.2.2.2.2.1, h.2.2.2.2.2.2.2.2.2.1 a (by omega)⟩
theorem p_next (hf : f_ok f) (R2 : r_l (-1) c m) (R3 : r_h f N z1 z2 X sec Y zd c m) (R5 : r_q f B c m) {q : Int} (q0 : 0 ≤ q) (q1 : q < 6) :
    ∃ a b, F2_nextMember q c = some (a, c) ∧ F12_ready q m = some (b, m) ∧ ((a = none ∧ b = -1) ∨ (a = some b ∧ gd q c b)) := by
  obtain ⟨p1, p2, _⟩ := R5.2.1 q q0 q1
  exact nx_loop R5 q0 q1 (free_of hf R2 R3) (m.1 150 0 q).toNat j_fu j_fu 0 none (-1) (by omega) (by omega) (by unfold j_fu; omega) (by unfold j_fu; omega) (Or.inl ⟨rfl, rfl⟩)
/-- the search for an idle circuit -/
theorem far_loop {e s ke : Int} (he : e = 0 ∨ e = 1) (hN : 1 ≤ N ∧ N ≤ 16) (h20 : c.1 1020 e 1 = N) (h10 : c.1 1 e 0 = e) (h0 : m.1 12 0 0 = N) (hT : ∀ t, 0 ≤ t → t < 32 → (m.1 154 0 t = 0 ↔ c.1 8 t 2 = 0)) :
    ∀ (d : Nat) (fu fu' : Nat) (i n : Int) (a : Option Int) (b : Int), 0 ≤ i → i + d = N → d < fu → d < fu' → 0 ≤ n → n ≤ i → ((a = none ∧ b = -1 ∧ n = 0) ∨ (0 ≤ b ∧ b < N ∧ a = some (16 * e + b) ∧ c.1 8 (16 * e + b) 2 = 0 ∧ 0 < n)) →
    ∃ n' a' b', F1_findIdle_7 fu e ke n a i c = some (if n' ≤ ke then none else a', c) ∧ F12_toFar_15 fu' s e n b i m = F12_toFar_15b (fun _ _ _ _ _ _ => none) s e n' b' N m ∧ 0 ≤ n' ∧ ((a' = none ∧ b' = -1 ∧ n' = 0) ∨ (0 ≤ b' ∧ b' < N ∧ a' = some (16 * e + b') ∧ c.1 8 (16 * e + b') 2 = 0 ∧ 0 < n'))
  | _, 0, _, _, _, _, _, _, _, h, _, _, _, _ => by omega
  | _, _ + 1, 0, _, _, _, _, _, _, _, h, _, _, _ => by omega
  | d, fu + 1, fu' + 1, i, n, a, b, i0, hd, h1, h2, n0, n1, inv => by
    show ∃ n' a' b', F1_findIdle_7b (F1_findIdle_7 fu) e ke n a i c = _ ∧ F12_toFar_15b (F12_toFar_15 fu') s e n b i m = _ ∧ _
    by_cases c1 : N ≤ i
    · have : i = N := by omega
      subst this
      refine ⟨n, a, b, ?_, ?_, n0, inv⟩
      · unfold F1_findIdle_7b
        rw [h20, g_t (by omega), if_pos (by omega)]
        split <;> rfl
      · unfold F12_toFar_15b
        rw [h0, if_pos (show i ≤ i by omega), if_pos (show i ≤ i by omega)]
    · have ih := far_loop (e := e) (s := s) (ke := ke) he hN h20 h10 h0 hT (d - 1) fu fu' (i + 1)
      have w1 : w32 (16 * e) = 16 * e := w32_of (by omega) (by omega)
      have w2 : w32 (16 * e + i) = 16 * e + i := w32_of (by omega) (by omega)
      have w3 : w32 (i + 1) = i + 1 := w32_of (by omega) (by omega)
      have w4 : w32 (n + 1) = n + 1 := w32_of (by omega) (by omega)
      have hTi := hT (16 * e + i) (by omega) (by omega)
      have e1 : F1_findIdle_7b (F1_findIdle_7 fu) e ke n a i c = if c.1 8 (16 * e + i) 2 = 0 then (if a = none ∨ e = 1 then F1_findIdle_7 fu e ke (n + 1) (some (16 * e + i)) (i + 1) c else F1_findIdle_7 fu e ke (n + 1) a (i + 1) c) else F1_findIdle_7 fu e ke n a (i + 1) c := by
        unfold F1_findIdle_7b F1_findIdle_45 F1_findIdle_53
        rw [h20, g_t (by omega), if_neg c1, g_t (by omega), g_t (by omega), h10, w3, w4]
        by_cases z1 : a = none <;> by_cases z2 : e = 1 <;> simp [z1, z2]
      have e2 : F12_toFar_15b (F12_toFar_15 fu') s e n b i m = if c.1 8 (16 * e + i) 2 = 0 then (if b = -1 ∨ e = 1 then F12_toFar_15 fu' s e (n + 1) i (i + 1) m else F12_toFar_15 fu' s e (n + 1) b (i + 1) m) else F12_toFar_15 fu' s e n b (i + 1) m := by
        unfold F12_toFar_15b F12_toFar_60 F12_toFar_62 F12_toFar_64
        rw [h0, if_neg c1, w1, w2, g_t (by omega), w3, w4]
        simp only [hTi]
        rcases he with rfl | rfl
        · by_cases z1 : b = -1 <;> simp [z1]
        · simp
      rw [e1, e2]
      by_cases c2 : c.1 8 (16 * e + i) 2 = 0
      · rw [if_pos c2, if_pos c2]
        have hab : (a = none ∨ e = 1) ↔ (b = -1 ∨ e = 1) := by
          rcases inv with ⟨z1, z2, _⟩ | ⟨z1, z2, z3, _⟩
          · simp [z1, z2]
          · rw [z3]; have : ¬ b = -1 := by omega
            simp [this]
        simp only [hab]
        by_cases c3 : b = -1 ∨ e = 1
        · rw [if_pos c3, if_pos c3]
          exact ih (n + 1) (some (16 * e + i)) i (by omega) (by omega) (by omega) (by omega) (by omega) (by omega) (Or.inr ⟨i0, by omega, rfl, c2, by omega⟩)
        · rw [if_neg c3, if_neg c3]
          refine ih (n + 1) a b (by omega) (by omega) (by omega) (by omega) (by omega) (by omega) (Or.inr ?_)
          rcases inv with ⟨z1, z2, _⟩ | ⟨z1, z2, z3, z4, z5⟩
          · exact absurd (Or.inl z2) c3
          · exact ⟨z1, z2, z3, z4, by omega⟩
      · rw [if_neg c2, if_neg c2]
        exact ih n a b (by omega) (by omega) (by omega) (by omega) (by omega) (by omega) inv
/-- the keys go into the message -/
theorem m_far258 {s e n sf : Int} (hs : 0 ≤ s ∧ s < 80) (hn : 0 ≤ n ∧ n ≤ 12) (hsf : 0 ≤ sf ∧ sf + n ≤ 12) : ∀ (fu : Nat) (i : Int) (h : JM), 0 ≤ i → i ≤ n → (n - i).toNat < fu → h.1 12 0 57 = 4 + i → h.1 141 0 s = sf →
    ∃ h' : JM, F12_toFar_258 fu s e n i h = (F12_goes e h').bind (fun h1 => (F12_becomes s 1 h1).bind (fun h2 => some h2)) ∧ h'.2 = h.2 ∧ (∀ k' n' j', h'.1 k' n' j' = if k' = 156 ∧ n' = 0 ∧ 4 + i ≤ j' ∧ j' < 4 + n then h.1 139 0 (12 * s + sf + (j' - 4)) else if k' = 12 ∧ n' = 0 ∧ j' = 57 then 4 + n else h.1 k' n' j')
  | 0, _, _, _, _, h, _, _ => by omega
  | fu + 1, i, h, i0, i1, hfu, hm, hq => by
    show ∃ h' : JM, F12_toFar_258b (F12_toFar_258 fu) s e n i h = _ ∧ _
    unfold F12_toFar_258b
    by_cases c1 : n ≤ i
    · rw [if_pos c1]
      refine ⟨h, rfl, rfl, fun k' n' j' => ?_⟩
      rw [if_neg (by omega)]
      by_cases z : k' = 12 ∧ n' = 0 ∧ j' = 57
      · obtain ⟨rfl, rfl, rfl⟩ := z
        rw [if_pos ⟨rfl, rfl, rfl⟩, hm]; omega
      · rw [if_neg z]
    · have w1 : w32 (12 * s) = 12 * s := w32_of (by omega) (by omega)
      have w2 : w32 (12 * s + sf) = 12 * s + sf := w32_of (by omega) (by omega)
      have w3 : w32 (12 * s + sf + i) = 12 * s + sf + i := w32_of (by omega) (by omega)
      have w4 : w32 (i + 1) = i + 1 := w32_of (by omega) (by omega)
      have w5 : w32 (4 + i + 1) = 4 + (i + 1) := by rw [w32_of (by omega) (by omega)]; omega
      have r1 : (sI h 12 0 57 (4 + (i + 1))).1 141 0 s = sf := by rw [rI_I, if_neg (by omega), hq]
      have r2 : ∀ j, (sI h 12 0 57 (4 + (i + 1))).1 139 0 j = h.1 139 0 j := fun j => by rw [rI_I, if_neg (by omega)]
      rw [if_neg c1, hm, w5, lt_d, g_t hs, r1, w1, w2, w3, g_t (by omega), g_t (by omega), lt_d, w4, r2]
      obtain ⟨h', y1, y2, y3⟩ := m_far258 (e := e) hs hn hsf fu (i + 1) (sI (sI h 12 0 57 (4 + (i + 1))) 156 0 (4 + i) (h.1 139 0 (12 * s + sf + i))) (by omega) (by omega) (by omega) (by rw [rI_I, if_neg (by omega), rI_I, if_pos ⟨rfl, rfl, rfl⟩]) (by rw [rI_I, if_neg (by omega), r1])
      refine ⟨h', y1, y2, fun k' n' j' => ?_⟩
      have q1 : ∀ j, (sI (sI h 12 0 57 (4 + (i + 1))) 156 0 (4 + i) (h.1 139 0 (12 * s + sf + i))).1 139 0 j = h.1 139 0 j := fun j => by rw [rI_I, if_neg (by omega), r2]
      rw [y3, q1, rI_I, rI_I]
      clear y1 y2 y3 q1 r1 r2 hm hq hfu w1 w2 w3 w4 w5
      by_cases z : k' = 156 ∧ n' = 0
      · obtain ⟨rfl, rfl⟩ := z
        by_cases z2 : j' = 4 + i
        · subst z2
          rw [if_neg (show ¬ (156 = 156 ∧ (0 : Int) = 0 ∧ 4 + (i + 1) ≤ 4 + i ∧ 4 + i < 4 + n) by omega), if_neg (show ¬ (156 = 12 ∧ (0 : Int) = 0 ∧ 4 + i = 57) by omega), if_pos ⟨rfl, rfl, rfl⟩, if_pos ⟨rfl, rfl, by omega, by omega⟩, show 4 + i - 4 = i by omega]
        · by_cases z3 : 4 + i ≤ j' ∧ j' < 4 + n
          · rw [if_pos ⟨rfl, rfl, by omega, by omega⟩, if_pos ⟨rfl, rfl, by omega, by omega⟩]
          · rw [if_neg (fun w => z3 (by omega)), if_neg (by omega), if_neg (fun w => z2 w.2.2), if_neg (by omega), if_neg (fun w => z3 w.2.2), if_neg (by omega)]
      · rw [if_neg (fun w => z ⟨w.1, w.2.1⟩)]
        by_cases z4 : k' = 12 ∧ n' = 0 ∧ j' = 57
        · rw [if_pos z4, if_neg (fun w => z ⟨w.1, w.2.1⟩), if_pos z4]
        · rw [if_neg z4, if_neg (fun w => z ⟨w.1, w.2.1⟩), if_neg z4, if_neg (fun w => z ⟨w.1, w.2.1⟩), if_neg z4]
end RN
