/-! ===== the reference lays a unit out ===== -/
theorem m_188 {L : List Nat} {k : Nat} (hk : k < 512) (hL : L.length ≤ 16) (hL2 : ∀ j, L.getD j 0 < 256) {s0 : Int} (hs : s0 ≠ 0) {e : Int} : ∀ (d fu i : Nat) (m : JM) (l : List Nat), i + d = L.length → d < fu → bst m l → l.length + 8 * d ≤ 300 → m.1 159 0 (k : Int) = (L.length : Int) → (∀ j : Nat, j < L.length → m.1 158 0 (16 * (k : Int) + j) = (L.getD j 0 : Int)) →
    ∃ m', F12_sends_188 fu e s0 (k : Int) (i : Int) m = F12_sends_227 e m' ∧ bst m' (l ++ (L.drop i).flatMap (fun b => bt b 8)) ∧ so w_by m m'
  | _, 0, _, _, _, _, q, _, _, _, _ => by omega
  | 0, fu + 1, i, m, l, ei, _, hb, _, h159, _ => by
    refine ⟨m, ?_, by rw [List.drop_of_length_le (by omega)]; simpa using hb, so_rfl m⟩
    show F12_sends_188b (F12_sends_188 fu) _ _ _ _ m = _
    unfold F12_sends_188b
    rw [if_neg hs, g_t (by omega), if_pos (by omega)]
  | d + 1, fu + 1, i, m, l, ei, q, hb, hl, h159, h158 => by
    have wi : w32 ((i : Int) + 1) = ((i + 1 : Nat) : Int) := by rw [w32_of (by omega) (by omega)]; omega
    have wk : w32 (w32 (16 * (k : Int)) + (i : Int)) = 16 * (k : Int) + i := by rw [w32_of (x := 16 * (k : Int)) (by omega) (by omega), w32_of (by omega) (by omega)]
    have hb8 := hL2 i
    obtain ⟨m1, p1, p2, p3⟩ := m_num (v := L.getD i 0) (w := 8) (by omega) (by decide) hb (by omega)
    obtain ⟨m', x1, x2, x3⟩ := m_188 hk hL hL2 hs (e := e) d fu (i + 1) m1 (l ++ bt (L.getD i 0) 8) (by omega) (by omega) p2 (by rw [List.length_append, bt_len]; omega) (by rw [(p3 159 0 k rfl).1]; exact h159) (fun j hj => by rw [(p3 158 0 _ rfl).1]; exact h158 j hj)
    refine ⟨m', ?_, ?_, so_tr p3 x3⟩
    · show F12_sends_188b (F12_sends_188 fu) _ _ _ _ m = _
      unfold F12_sends_188b
      rw [if_neg hs, g_t (by omega), if_neg (by omega), wk, g_t (by omega), h158 i (by omega), show (8 : Int) = ((8 : Nat) : Int) from rfl, p1, Option.bind_some, wi]
      exact x1
    · rw [drop_at (U := L) (i := i) (by omega), List.flatMap_cons, ← List.append_assoc]
      exact x2
def w_sb (k : Nat) (j : Int) : Bool := k == 169 || (decide (171 ≤ k) && decide (k ≤ 174)) || k == 182 || (k == 12 && (j == 70 || j == 83))
theorem w_l1 : ∀ k j, w_sb k j = false → w_by k j = false := by intro k j; simp [w_sb, w_by]; omega
theorem w_l2 : ∀ k j, w_sb k j = false → w_ub k j = false := by intro k j; simp [w_sb, w_ub]; omega
theorem m_lay {e : Int} (he : e = 0 ∨ e = 1) {m : JM} {l : List Nat} (hb : bst m l) (hl : l.length ≤ 152) {nw : Int} (hnow : m.1 12 0 2 = nw) (n0 : 0 ≤ nw) (n1 : nw ≤ 10000000) :
    ∃ m', F12_sends_227 e m = F12_sends_460 j_fu e (4 * e + nw % 4) 0 m' ∧ so w_sb m m' ∧ m'.1 12 0 70 = ((enc (l ++ bt (65535 - crc l) 16)).length : Int) ∧
      (∀ j, m'.1 171 0 j = if 320 * (64 * e + nw % 64) ≤ j ∧ j < 320 * (64 * e + nw % 64) + (enc (l ++ bt (65535 - crc l) 16)).length then ((enc (l ++ bt (65535 - crc l) 16)).getD (j - 320 * (64 * e + nw % 64)).toNat 0 : Int) else m.1 171 0 j) ∧
      (∀ j, m'.1 173 0 j = if 320 * (4 * e + nw % 4) ≤ j ∧ j < 320 * (4 * e + nw % 4) + (enc (l ++ bt (65535 - crc l) 16)).length then ((enc (l ++ bt (65535 - crc l) 16)).getD (j - 320 * (4 * e + nw % 4)).toNat 0 : Int) else m.1 173 0 j) ∧
      (∀ j, m'.1 172 0 j = if j = 64 * e + nw % 64 then ((enc (l ++ bt (65535 - crc l) 16)).length : Int) else m.1 172 0 j) ∧
      (∀ j, m'.1 174 0 j = if j = 4 * e + nw % 4 then ((enc (l ++ bt (65535 - crc l) 16)).length : Int) else m.1 174 0 j) := by
  have hcr := crc_lt l
  have e1 := m_check hb (n := l.length) (Nat.le_refl _)
  rw [List.take_length] at e1
  obtain ⟨m1, p1, p2, p3⟩ := m_num (v := 65535 - crc l) (w := 16) (by omega) (by decide) hb (by omega)
  generalize hF : l ++ bt (65535 - crc l) 16 = F at *
  have Fl : F.length = l.length + 16 := by rw [← hF, List.length_append, bt_len]
  have sl := stf_len F 0 (by omega)
  obtain ⟨m2, q1, q2, q3⟩ := m_flag (m := sI m1 12 0 70 0) (P := []) ⟨ar_nil _, by rw [rI_s]; rfl⟩ (by simp)
  rw [List.nil_append] at q2
  have s2 : so w_sb m m2 := so_tr (so_mono w_l1 p3) (so_tr (so_I (so_rfl m1) rfl _ _) (so_mono w_l2 q3))
  have b2 : bst m2 F := ⟨ar_cg p2.1 (fun j _ => by rw [(q3 182 0 j rfl).1, rI_o (by omega)]), by rw [(q3 12 0 83 rfl).1, rI_o (by omega)]; exact p2.2.1, p2.2.2.1, p2.2.2.2⟩
  obtain ⟨o', m3, r1, r2, r3⟩ := m_stuff (l := F) F.length j_fu 0 0 e m2 flg (by omega) (by unfold j_fu; omega) b2 q2 (by omega) (fun j hj => by
    have := stf_len ((F.drop 0).take j) 0 (by omega)
    have h2 : ((F.drop 0).take j).length ≤ F.length := by rw [List.drop_zero, List.length_take]; omega
    have e8 : flg.length = 8 := rfl
    omega)
  rw [List.drop_zero] at r2
  have e8 : flg.length = 8 := rfl
  obtain ⟨m4, t1, t2, t3⟩ := m_flag r2 (by rw [List.length_append]; omega)
  have t2' : ust m4 (enc F) := t2
  have s4 : so w_sb m m4 := so_tr s2 (so_tr (so_mono w_l2 r3) (so_mono w_l2 t3))
  have El : (enc F).length = 16 + (stf 0 F).length := by unfold enc; rw [List.length_append, List.length_append]; omega
  have now4 : m4.1 12 0 2 = nw := by rw [(s4 12 0 2 rfl).1]; exact hnow
  obtain ⟨at', hat⟩ : ∃ at' : Nat, (at' : Int) = 64 * e + nw % 64 := ⟨(64 * e + nw % 64).toNat, by omega⟩
  obtain ⟨on, hon⟩ : ∃ on : Nat, (on : Int) = 4 * e + nw % 4 := ⟨(4 * e + nw % 4).toNat, by omega⟩
  obtain ⟨m5, u1, u2, u3⟩ := m_copy (at' := at') (on := on) (n := (enc F).length) (by omega) (by omega) (by omega) (enc F).length j_fu 0 e m4 (by omega) (by unfold j_fu; omega) t2'.2
  have wa : w32 (w32 (64 * e) + j_rem nw 64) = (at' : Int) := by rw [i_rem n0 (by omega) (by decide) (by decide), w32_of (x := 64 * e) (by omega) (by omega), w32_of (by omega) (by omega)]; omega
  have wo : w32 (w32 (4 * e) + j_rem nw 4) = (on : Int) := by rw [i_rem n0 (by omega) (by decide) (by decide), w32_of (x := 4 * e) (by omega) (by omega), w32_of (by omega) (by omega)]; omega
  have m570 : m5.1 12 0 70 = ((enc F).length : Int) := by rw [u3, if_neg (by omega), if_neg (by omega)]; exact t2'.2
  have E1 : F12_sends_227 e m = F12_sends_460 j_fu e (on : Int) 0 (sI (sI m5 172 0 (at' : Int) ((enc F).length : Int)) 174 0 (on : Int) ((enc F).length : Int)) := by
    unfold F12_sends_227
    rw [hb.2.1, e1, Option.bind_some]
    dsimp only
    rw [show (16 : Int) = ((16 : Nat) : Int) from rfl, p1, Option.bind_some, lt_d, q1, Option.bind_some]
    rw [show ((0 : Nat) : Int) = 0 from rfl] at r1
    rw [r1]
    unfold F12_sends_260b
    have b3 : m3.1 12 0 83 = (F.length : Int) := by rw [(r3 12 0 83 rfl).1]; exact b2.2.1
    rw [b3, if_pos (Int.le_refl _), t1, Option.bind_some, now4, wa, lt_d, wo, lt_d]
    rw [show ((0 : Nat) : Int) = 0 from rfl] at u1
    rw [u1]
    unfold F12_sends_378b
    rw [m570, if_pos (Int.le_refl _), g_t (by omega), lt_d, g_t (by omega), rI_o (by omega), m570, lt_d]
  have s5 : so w_sb m4 m5 := fun k n j q => by
    refine ⟨?_, by rw [u2], by rw [u2]⟩
    simp [w_sb] at q
    rw [u3, if_neg (by omega), if_neg (by omega)]
  have EE : ∀ j : Int, 0 ≤ j → j < (enc F).length → m4.1 169 0 j = ((enc F).getD j.toNat 0 : Int) := fun j j0 j1 => by
    have := t2'.1 j.toNat (by omega)
    rw [← this]
    exact cgI _ _ _ (by omega)
  refine ⟨_, by rw [E1, hon], so_I (so_I (so_tr s4 s5) rfl _ _) rfl _ _, ?_, fun j => ?_, fun j => ?_, fun j => ?_, fun j => ?_⟩
  · rw [rI_o (by omega), rI_o (by omega)]; exact m570
  · rw [rI_o (by omega), rI_o (by omega), u3, ← hat]
    by_cases z : 320 * (at' : Int) ≤ j ∧ j < 320 * (at' : Int) + (enc F).length
    · rw [if_pos (by omega), if_pos z]; exact EE _ (by omega) (by omega)
    · rw [if_neg (by omega), if_neg (by omega), if_neg z]
      have h1 := (r3 171 0 j rfl).1
      have h2 := (t3 171 0 j rfl).1
      have h3 := (q3 171 0 j rfl).1
      have h4 := (p3 171 0 j rfl).1
      rw [h2, h1, h3, rI_o (by omega), h4]
  · rw [rI_o (by omega), rI_o (by omega), u3, ← hon]
    by_cases z : 320 * (on : Int) ≤ j ∧ j < 320 * (on : Int) + (enc F).length
    · rw [if_neg (by omega), if_pos (by omega), if_pos z]; exact EE _ (by omega) (by omega)
    · rw [if_neg (by omega), if_neg (by omega), if_neg z]
      have h1 := (r3 173 0 j rfl).1
      have h2 := (t3 173 0 j rfl).1
      have h3 := (q3 173 0 j rfl).1
      have h4 := (p3 173 0 j rfl).1
      rw [h2, h1, h3, rI_o (by omega), h4]
  · have h1 := (r3 172 0 j rfl).1
    have h2 := (t3 172 0 j rfl).1
    have h3 := (q3 172 0 j rfl).1
    have h4 := (p3 172 0 j rfl).1
    have base : m5.1 172 0 j = m.1 172 0 j := by rw [u3, if_neg (by omega), if_neg (by omega), h2, h1, h3, rI_o (by omega), h4]
    rw [rI_o (by omega), rI_I, base, ← hat]
    by_cases z : j = (at' : Int)
    · rw [if_pos ⟨rfl, rfl, z⟩, if_pos z]
    · rw [if_neg (fun w => z w.2.2), if_neg z]
  · have h1 := (r3 174 0 j rfl).1
    have h2 := (t3 174 0 j rfl).1
    have h3 := (q3 174 0 j rfl).1
    have h4 := (p3 174 0 j rfl).1
    have base : m5.1 174 0 j = m.1 174 0 j := by rw [u3, if_neg (by omega), if_neg (by omega), h2, h1, h3, rI_o (by omega), h4]
    rw [rI_I, rI_o (by omega), base, ← hon]
    by_cases z : j = (on : Int)
    · rw [if_pos ⟨rfl, rfl, z⟩, if_pos z]
    · rw [if_neg (fun w => z w.2.2), if_neg z]
/-- the reference's unit from its fields -/
theorem m_106 {e : Int} (he : e = 0 ∨ e = 1) {m : JM} {a b d g : Nat} {L : List Nat} {s0 : Int} {k : Nat} (hk : k < 512) (hL : L.length ≤ 16) (hL2 : ∀ j, L.getD j 0 < 256) (h164 : 0 ≤ m.1 164 0 e ∧ m.1 164 0 e < 2000000000 ∧ (a : Int) = m.1 164 0 e % 128) (h166 : (b : Int) = m.1 166 0 e ∧ b < 2) (h162 : 0 ≤ m.1 162 0 e ∧ m.1 162 0 e < 2000000000 ∧ (d : Int) = m.1 162 0 e % 128) (h165 : (g : Int) = m.1 165 0 e ∧ g < 2)
    (hs : (s0 = 0 ∧ L = []) ∨ (s0 ≠ 0 ∧ m.1 159 0 (k : Int) = (L.length : Int) ∧ (∀ j : Nat, j < L.length → m.1 158 0 (16 * (k : Int) + j) = (L.getD j 0 : Int)))) :
    ∃ m', F12_sends_106 e s0 (k : Int) m = F12_sends_227 e m' ∧ bst m' (bdy a b d g L) ∧ so w_by m m' := by
  have he2 : (0 : Int) ≤ e ∧ e < 2 := by omega
  have ja : j_rem (m.1 164 0 e) 128 = (a : Int) := by rw [h164.2.2]; exact i_rem h164.1 (by omega) (by decide) (by decide)
  have jd : j_rem (m.1 162 0 e) 128 = (d : Int) := by rw [h162.2.2]; exact i_rem h162.1 (by omega) (by decide) (by decide)
  have b0 : bst (sI m 12 0 83 0) [] := ⟨ar_nil _, by rw [rI_s]; rfl, by simp, bl_nil⟩
  have s0' : so w_by m (sI m 12 0 83 0) := so_I (so_rfl m) rfl _ _
  obtain ⟨m1, p1, q1, r1⟩ := m_num (v := a) (w := 7) (by omega) (by decide) b0 (by simp)
  obtain ⟨m2, p2, q2, r2⟩ := m_num (v := b) (w := 1) (by omega) (by decide) q1 (by simp [bt_len])
  obtain ⟨m3, p3, q3, r3⟩ := m_num (v := d) (w := 7) (by omega) (by decide) q2 (by simp [bt_len])
  obtain ⟨m4, p4, q4, r4⟩ := m_num (v := g) (w := 1) (by omega) (by decide) q3 (by simp [bt_len])
  obtain ⟨m5, p5, q5, r5⟩ := m_num (v := L.length) (w := 8) (by omega) (by decide) q4 (by simp [bt_len])
  have s1 := so_tr s0' r1
  have s2 := so_tr s1 r2
  have s3 := so_tr s2 r3
  have s4 := so_tr s3 r4
  have s5 := so_tr s4 r5
  have st : F12_sends_106 e s0 (k : Int) m = F12_sends_188 j_fu e s0 (k : Int) 0 m5 := by
    unfold F12_sends_106
    simp only [lt_d, g_t he2]
    rw [rI_o (by omega), ja, show (7 : Int) = ((7 : Nat) : Int) from rfl, p1, Option.bind_some, (s1 166 0 e rfl).1, ← h166.1, show (1 : Int) = ((1 : Nat) : Int) from rfl, p2, Option.bind_some, (s2 162 0 e rfl).1, jd, p3, Option.bind_some, (s3 165 0 e rfl).1, ← h165.1, p4, Option.bind_some]
    unfold F12_sends_180
    simp only [Option.bind_some]
    rw [g_t True.intro, g_t True.intro]
    rcases hs with ⟨rfl, rfl⟩ | ⟨z, h159, _⟩
    · rw [if_pos rfl]
      have p5' : F12_number 0 8 m4 = some m5 := p5
      rw [p5', Option.bind_some]
    · rw [if_neg z, g_t (by omega), (s4 159 0 k rfl).1, h159, show (8 : Int) = ((8 : Nat) : Int) from rfl, p5, Option.bind_some]
  rcases hs with ⟨rfl, rfl⟩ | ⟨z, h159, h158⟩
  · refine ⟨m5, ?_, by simpa [bdy] using q5, s5⟩
    rw [st]
    show F12_sends_188b (F12_sends_188 99999) _ _ _ _ m5 = _
    unfold F12_sends_188b
    rw [if_pos rfl]
  · obtain ⟨m', x1, x2, x3⟩ := m_188 hk hL hL2 z (e := e) L.length j_fu 0 m5 _ (by omega) (by unfold j_fu; omega) q5 (by simp [bt_len]; omega) (by rw [(s5 159 0 k rfl).1]; exact h159) (fun j hj => by rw [(s5 158 0 _ rfl).1]; exact h158 j hj)
    exact ⟨m', by rw [st]; exact x1, by simpa [bdy] using x2, so_tr s5 x3⟩
