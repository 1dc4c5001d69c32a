/-! ===== the reference reads bits ===== -/
/-- bits on the way -/
def mw (m : JM) (on : Nat) (U : List Nat) : Prop := (∀ j : Nat, j < U.length → m.1 173 0 ((320 * on + j : Nat) : Int) = (U.getD j 0 : Int)) ∧ U.length ≤ 256 ∧ bl U ∧ on < 8
theorem m_fl2 {m : JM} {on : Nat} {U : List Nat} (hU : mw m on U) {i : Nat} (hi : i + 8 ≤ U.length) : ∀ (d fu j : Nat), j + d = 8 → d < fu → F12_isFlag_2 fu (some 0) ((320 * on + i : Nat) : Int) (j : Int) m = some (if (flg.drop j).isPrefixOf (U.drop (i + j)) = true then 1 else 0, m)
  | _, 0, _, _, q => by omega
  | 0, fu + 1, j, e, _ => by
    show F12_isFlag_2b (F12_isFlag_2 fu) _ _ _ m = _
    unfold F12_isFlag_2b
    rw [if_pos (by omega), show j = 8 by omega]
    rfl
  | d + 1, fu + 1, j, e, q => by
    have ih := m_fl2 hU hi d fu (j + 1) (by omega) (by omega)
    obtain ⟨h1, h3, h4, h5⟩ := hU
    have wi : w32 ((j : Int) + 1) = ((j + 1 : Nat) : Int) := by rw [w32_of (by omega) (by omega)]; omega
    have wa : w32 (((320 * on + i : Nat) : Int) + (j : Int)) = ((320 * on + (i + j) : Nat) : Int) := by rw [w32_of (by omega) (by omega)]; omega
    have c1 : ¬ (8 : Int) ≤ (j : Int) := by omega
    have c2 : (0 : Int) ≤ ((320 * on + (i + j) : Nat) : Int) ∧ ((320 * on + (i + j) : Nat) : Int) < 2560 := by omega
    have hrd := h1 (i + j) (by omega)
    have e1 := flg_at j (by omega)
    have e2 := drop_at (U := U) (i := i + j) (by omega)
    have hstep : ∀ v : Nat, F12_isFlag_28 (F12_isFlag_2 fu) (some 0) ((320 * on + i : Nat) : Int) (j : Int) (U.getD (i + j) 0 : Int) (v : Int) m = some (if ((v :: flg.drop (j + 1)).isPrefixOf (U.getD (i + j) 0 :: U.drop (i + j + 1))) = true then 1 else 0, m) := fun v => by
      unfold F12_isFlag_28
      by_cases z : U.getD (i + j) 0 = v
      · rw [if_pos (by rw [z]), wi, ih, z]
        simp [List.isPrefixOf, Nat.add_assoc]
      · have : ¬ v = U.getD (i + j) 0 := fun w => z w.symm
        have hne : (v == U.getD (i + j) 0) = false := beq_false_of_ne this
        have hne2 : ¬ (U.getD (i + j) 0 : Int) = (v : Int) := fun w => z (Int.ofNat.inj w)
        rw [if_neg hne2]
        simp only [List.isPrefixOf, hne, Bool.false_and, Bool.false_eq_true, if_false]
    show F12_isFlag_2b (F12_isFlag_2 fu) _ _ _ m = _
    unfold F12_isFlag_2b F12_isFlag_23
    rw [if_neg c1, Option.bind_some, wa, g_t c2, hrd, e1, e2]
    by_cases z0 : j = 0
    · rw [if_pos (show (j : Int) = 0 by omega), if_pos (Or.inl z0)]; exact hstep 0
    · by_cases z7 : j = 7
      · rw [if_neg (show ¬ (j : Int) = 0 by omega), if_pos (show (j : Int) = 7 by omega), if_pos (Or.inr z7)]; exact hstep 0
      · rw [if_neg (show ¬ (j : Int) = 0 by omega), if_neg (show ¬ (j : Int) = 7 by omega), if_neg (show ¬ (j = 0 ∨ j = 7) by omega)]; exact hstep 1
theorem m_isFlag {m : JM} {on : Nat} {U : List Nat} (hU : mw m on U) {i : Nat} (hi : i + 8 ≤ U.length) : F12_isFlag (some 0) ((320 * on + i : Nat) : Int) m = some (if flg.isPrefixOf (U.drop i) = true then 1 else 0, m) := m_fl2 hU hi 8 j_fu 0 (by omega) (by unfold j_fu; omega)
theorem m_find {m : JM} {on : Nat} {U : List Nat} (hU : mw m on U) : ∀ (d fu i : Nat), i + d = U.length → d < fu → 8 ≤ i → (∀ j, 8 ≤ j → j < i → ¬ flg.isPrefixOf (U.drop j) = true) →
    (∃ p, i ≤ p ∧ p + 8 ≤ U.length ∧ flg.isPrefixOf (U.drop p) = true ∧ (∀ j, 8 ≤ j → j < p → ¬ flg.isPrefixOf (U.drop j) = true) ∧ F12_isRight_34 fu ((320 * on : Nat) : Int) ((320 * on + U.length : Nat) : Int) ((320 * on + i : Nat) : Int) m = F12_isRight_61 ((320 * on : Nat) : Int) ((320 * on + U.length : Nat) : Int) ((320 * on + p : Nat) : Int) m) ∨
    ((∀ j, 8 ≤ j → ¬ flg.isPrefixOf (U.drop j) = true) ∧ F12_isRight_34 fu ((320 * on : Nat) : Int) ((320 * on + U.length : Nat) : Int) ((320 * on + i : Nat) : Int) m = some (0, m))
  | _, 0, _, _, q, _, _ => by omega
  | d, fu + 1, i, e, q, i8, hno => by
    obtain ⟨h1, h3, h4, h5⟩ := hU
    have w8 : w32 (((320 * on + i : Nat) : Int) + 8) = ((320 * on + i + 8 : Nat) : Int) := by rw [w32_of (by omega) (by omega)]; omega
    have w1 : w32 (((320 * on + i : Nat) : Int) + 1) = ((320 * on + (i + 1) : Nat) : Int) := by rw [w32_of (by omega) (by omega)]; omega
    by_cases z : U.length < i + 8
    · refine Or.inr ⟨fun j j8 => ?_, ?_⟩
      · by_cases y : j < i
        · exact hno j j8 y
        · exact flg_short (by rw [List.length_drop]; omega)
      · show F12_isRight_34b (F12_isRight_34 fu) _ _ _ m = _
        unfold F12_isRight_34b F12_isRight_61
        rw [w8, if_pos (by omega), if_neg (by omega)]
    · have hf := m_isFlag (m := m) (on := on) (U := U) ⟨h1, h3, h4, h5⟩ (i := i) (by omega)
      by_cases y : flg.isPrefixOf (U.drop i) = true
      · rw [if_pos y] at hf
        refine Or.inl ⟨i, Nat.le_refl _, by omega, y, hno, ?_⟩
        show F12_isRight_34b (F12_isRight_34 fu) _ _ _ m = _
        unfold F12_isRight_34b
        rw [w8, if_neg (by omega), hf, Option.bind_some]
        dsimp only
        rw [if_neg (by decide)]
      · rw [if_neg y] at hf
        obtain ⟨d', rfl⟩ : ∃ d', d = d' + 1 := ⟨d - 1, by omega⟩
        have st : F12_isRight_34 (fu + 1) ((320 * on : Nat) : Int) ((320 * on + U.length : Nat) : Int) ((320 * on + i : Nat) : Int) m = F12_isRight_34 fu ((320 * on : Nat) : Int) ((320 * on + U.length : Nat) : Int) ((320 * on + (i + 1) : Nat) : Int) m := by
          show F12_isRight_34b (F12_isRight_34 fu) _ _ _ m = _
          unfold F12_isRight_34b
          rw [w8, if_neg (by omega), hf, Option.bind_some]
          dsimp only
          rw [if_pos rfl, w1]
        have hno' : ∀ j, 8 ≤ j → j < i + 1 → ¬ flg.isPrefixOf (U.drop j) = true := fun j a b => by
          by_cases w : j = i
          · subst w; exact y
          · exact hno j a (by omega)
        rcases m_find (m := m) (on := on) (U := U) ⟨h1, h3, h4, h5⟩ d' fu (i + 1) (by omega) (by omega) (by omega) hno' with ⟨p, a1, a2, a3, a4, a5⟩ | ⟨a1, a2⟩
        · exact Or.inl ⟨p, by omega, a2, a3, a4, by rw [st]; exact a5⟩
        · exact Or.inr ⟨a1, by rw [st]; exact a2⟩
/-- bits without what was put behind five ones, as the reference takes them -/
def us : Nat → List Nat → Bool × List Nat
  | _, [] => (true, [])
  | r, b :: t => if r = 5 then (decide (b = 0) && (us 0 t).1, (us 0 t).2) else ((us (if b = 1 then r + 1 else 0) t).1, b :: (us (if b = 1 then r + 1 else 0) t).2)
theorem us_c (r b : Nat) (t : List Nat) : us r (b :: t) = if r = 5 then (decide (b = 0) && (us 0 t).1, (us 0 t).2) else ((us (if b = 1 then r + 1 else 0) t).1, b :: (us (if b = 1 then r + 1 else 0) t).2) := rfl
theorem uf_us : ∀ (p r : Nat) (V : List Nat), bl V → (∀ i, i < p → ¬ flg.isPrefixOf (V.drop i) = true) → flg.isPrefixOf (V.drop p) = true → uf r V = if (us r (V.take p)).1 = true then some (us r (V.take p)).2 else none
  | 0, r, V, _, _, h => by
    rw [List.drop_zero] at h
    cases V with
    | nil => exact absurd h (by decide)
    | cons b t =>
      unfold uf
      rw [if_pos h]
      rfl
  | p + 1, r, V, hb, hn, h => by
    cases V with
    | nil => exact absurd h (by simp; decide)
    | cons b t =>
      have hb2 := bl_tl hb
      have h0 := hn 0 (by omega)
      rw [List.drop_zero] at h0
      have ih := fun r' => uf_us p r' t hb2.2 (fun i hi => by have := hn (i + 1) (by omega); rwa [List.drop_succ_cons] at this) (by rwa [List.drop_succ_cons] at h)
      conv => lhs; unfold uf
      rw [if_neg h0, List.take_succ_cons]
      unfold us
      by_cases z : r = 5
      · rw [if_pos z, if_pos z]
        by_cases y : b = 1
        · rw [if_pos y, if_neg (by rw [y]; simp)]
        · have b0 : b = 0 := by omega
          rw [if_neg y, ih 0]
          simp [b0]
      · rw [if_neg z, if_neg z, ih]
        dsimp only
        generalize us (if b = 1 then r + 1 else 0) (t.take p) = pr
        cases pr with
        | mk q l => cases q <;> rfl
theorem uf_none : ∀ (V : List Nat) (r : Nat), (∀ i, ¬ flg.isPrefixOf (V.drop i) = true) → uf r V = none
  | [], _, _ => rfl
  | b :: t, r, h => by
    have h0 := h 0
    rw [List.drop_zero] at h0
    have ih := fun r' => uf_none t r' (fun i => by have := h (i + 1); rwa [List.drop_succ_cons] at this)
    unfold uf
    rw [if_neg h0]
    by_cases z : r = 5
    · rw [if_pos z]
      by_cases y : b = 1
      · rw [if_pos y]
      · rw [if_neg y, ih]
    · rw [if_neg z, ih]; rfl
/-- the reference's body -/
def bst (m : JM) (l : List Nat) : Prop := ar (m.1 182 0) l ∧ m.1 12 0 83 = (l.length : Int) ∧ l.length ≤ 320 ∧ bl l
def w_by (k : Nat) (j : Int) : Bool := k == 182 || (k == 12 && j == 83)
theorem bst_push {m : JM} {l : List Nat} (h : bst m l) {b : Nat} (hb : b < 2) (hl : l.length < 320) : bst (sI (sI m 12 0 83 ((l.length + 1 : Nat) : Int)) 182 0 (l.length : Int) (b : Int)) (l ++ [b]) := by
  refine ⟨ar_snoc (ar_cg h.1 (fun j hj => ?_)) ?_, ?_, ?_, bl_app h.2.2.2 (bl_cons hb bl_nil)⟩
  · rw [rI_o (by omega), rI_o (by omega)]
  · rw [rI_s]
  · rw [rI_o (by omega), rI_s]; simp
  · simp; omega
theorem m_us89 {on p : Nat} {U : List Nat} (hp : p ≤ U.length) : ∀ (d fu i r : Nat) (q : Bool) (m : JM) (P : List Nat), mw m on U → i + d = p → d < fu → r ≤ 5 → bst m P → P.length ≤ i →
    ∃ r' m', F12_isRight_89 fu ((320 * on + p : Nat) : Int) (r : Int) (if q = true then 1 else 0) ((320 * on + i : Nat) : Int) m = F12_isRight_89b (fun _ _ _ _ _ => none) ((320 * on + p : Nat) : Int) r' (if (q && (us r ((U.drop i).take d)).1) = true then 1 else 0) ((320 * on + p : Nat) : Int) m' ∧ bst m' (P ++ (us r ((U.drop i).take d)).2) ∧ so w_by m m'
  | _, 0, _, _, _, _, _, _, _, q, _, _, _ => by omega
  | 0, fu + 1, i, r, q, m, P, hU, e, _, hr, hP, hi => by
    refine ⟨(r : Int), m, ?_, by simpa [us] using hP, so_rfl m⟩
    show F12_isRight_89b (F12_isRight_89 fu) _ _ _ _ m = _
    rw [show i = p by omega, List.take_zero, show (us r []).1 = true from rfl, Bool.and_true]
    unfold F12_isRight_89b
    rw [if_pos (Int.le_refl _), if_pos (Int.le_refl _)]
  | d + 1, fu + 1, i, r, q, m, P, hU, e, hfu, hr, hP, hi => by
    obtain ⟨h1, h3, h4, h5⟩ := hU
    have iU : i < U.length := by omega
    have c1 : ¬ ((320 * on + p : Nat) : Int) ≤ ((320 * on + i : Nat) : Int) := by omega
    have c2 : (0 : Int) ≤ ((320 * on + i : Nat) : Int) ∧ ((320 * on + i : Nat) : Int) < 2560 := by omega
    have w1 : w32 (((320 * on + i : Nat) : Int) + 1) = ((320 * on + (i + 1) : Nat) : Int) := by rw [w32_of (by omega) (by omega)]; omega
    have cP : P.length < 320 := by omega
    have c3 : (0 : Int) ≤ (P.length : Int) ∧ (P.length : Int) < 320 := by omega
    have wP : w32 ((P.length : Int) + 1) = ((P.length + 1 : Nat) : Int) := by rw [w32_of (by omega) (by omega)]; omega
    have wr : w32 ((r : Int) + 1) = ((r + 1 : Nat) : Int) := by rw [w32_of (by omega) (by omega)]; omega
    have ed : (U.drop i).take (d + 1) = U.getD i 0 :: (U.drop (i + 1)).take d := by rw [drop_at iU, List.take_succ_cons]
    have hrd := h1 i iU
    have hbit := bl_nth h4 i
    generalize hB : U.getD i 0 = b at *
    by_cases z : r = 5
    · have st : F12_isRight_89 (fu + 1) ((320 * on + p : Nat) : Int) (r : Int) (if q = true then 1 else 0) ((320 * on + i : Nat) : Int) m = F12_isRight_89 fu ((320 * on + p : Nat) : Int) ((0 : Nat) : Int) (if (q && decide (b = 0)) = true then 1 else 0) ((320 * on + (i + 1) : Nat) : Int) m := by
        show F12_isRight_89b (F12_isRight_89 fu) _ _ _ _ m = _
        unfold F12_isRight_89b F12_isRight_119 F12_isRight_172
        rw [if_neg c1, if_pos (by rw [z]; rfl), g_t c2, hrd, w1]
        have hb01 : b = 0 ∨ b = 1 := by omega
        rcases hb01 with rfl | rfl
        · rw [if_pos (show ((0 : Nat) : Int) = 0 from rfl), lt_d]
          cases q <;> rfl
        · rw [if_neg (show ¬ ((1 : Nat) : Int) = 0 by decide), lt_d]
          cases q <;> rfl
      obtain ⟨r', m', x1, x2, x3⟩ := m_us89 hp d fu (i + 1) 0 (q && decide (b = 0)) m P ⟨h1, h3, h4, h5⟩ (by omega) (by omega) (by omega) hP (by omega)
      refine ⟨r', m', ?_, ?_, x3⟩
      · rw [st, x1, ed, us_c, if_pos z, Bool.and_assoc]
      · rw [ed, us_c, if_pos z]
        exact x2
    · have hr2 : (if b = 1 then r + 1 else 0) ≤ 5 := by
        split
        · exact Nat.lt_of_le_of_ne hr z
        · exact Nat.zero_le _
      have hP2 := bst_push hP hbit cP
      have hU2 : mw (sI (sI m 12 0 83 ((P.length + 1 : Nat) : Int)) 182 0 (P.length : Int) (b : Int)) on U := ⟨fun j hj => by rw [rI_o (Or.inl (by decide)), rI_o (Or.inl (by decide))]; exact h1 j hj, h3, h4, h5⟩
      have hso : so w_by m (sI (sI m 12 0 83 ((P.length + 1 : Nat) : Int)) 182 0 (P.length : Int) (b : Int)) := so_I (so_I (so_rfl m) rfl _ _) rfl _ _
      have st : F12_isRight_89 (fu + 1) ((320 * on + p : Nat) : Int) (r : Int) (if q = true then 1 else 0) ((320 * on + i : Nat) : Int) m = F12_isRight_89 fu ((320 * on + p : Nat) : Int) (((if b = 1 then r + 1 else 0 : Nat)) : Int) (if q = true then 1 else 0) ((320 * on + (i + 1) : Nat) : Int) (sI (sI m 12 0 83 ((P.length + 1 : Nat) : Int)) 182 0 (P.length : Int) (b : Int)) := by
        show F12_isRight_89b (F12_isRight_89 fu) _ _ _ _ m = _
        have z' : ¬ (r : Int) = 5 := fun w => z (Int.ofNat.inj w)
        unfold F12_isRight_89b F12_isRight_170 F12_isRight_172
        rw [if_neg c1, if_neg z', lt_d, g_t c2, hP.2.1, g_t c3, lt_d, g_t c2, wP, rI_o (Or.inl (by decide)), rI_o (Or.inl (by decide)), hrd, w1, wr]
        by_cases y : b = 1
        · rw [if_pos (by rw [y]; rfl), if_pos y]
        · rw [if_neg (show ¬ (b : Int) = 1 from fun w => y (Int.ofNat.inj w)), if_neg y]; rfl
      obtain ⟨r', m', x1, x2, x3⟩ := m_us89 hp d fu (i + 1) (if b = 1 then r + 1 else 0) q _ (P ++ [b]) hU2 (by omega) (by omega) hr2 hP2 (by simp; omega)
      refine ⟨r', m', ?_, ?_, so_tr hso x3⟩
      · rw [st, x1, ed, us_c, if_neg z]
      · rw [ed, us_c, if_neg z]
        simpa using x2
theorem m_rd7 {m : JM} {l : List Nat} (hb : bst m l) {a w : Nat} (hw : w ≤ 16) (haw : a + w ≤ l.length) : ∀ (i fu : Nat), i ≤ w → i < fu → F12_read_7 fu (a : Int) (vr l (a + i) (w - i) : Int) ((i : Int) - 1) m = some ((vr l a w : Int), m)
  | _, 0, _, q => by omega
  | 0, fu + 1, _, _ => by
    show F12_read_7b (F12_read_7 fu) _ _ _ m = _
    unfold F12_read_7b
    rw [if_pos (by decide)]
    rfl
  | i + 1, fu + 1, hi, q => by
    have ih := m_rd7 hb hw haw i fu (by omega) (by omega)
    have wa : w32 ((a : Int) + (((i + 1 : Nat) : Int) - 1)) = ((a + i : Nat) : Int) := by have := hb.2.2.1; rw [w32_of (by omega) (by omega)]; omega
    have c1 : ¬ ((i + 1 : Nat) : Int) - 1 < 0 := by omega
    have c2 : (0 : Int) ≤ ((a + i : Nat) : Int) ∧ ((a + i : Nat) : Int) < 320 := by have := hb.2.2.1; omega
    have wi : w32 (((i + 1 : Nat) : Int) - 1 + -1) = (i : Int) - 1 := by rw [w32_of (by omega) (by omega)]; omega
    have iL : a + i < l.length := by omega
    have e0 : w - i = (w - (i + 1)) + 1 := by omega
    have hrd := hb.1 (a + i) iL
    have hbit := bl_nth hb.2.2.2 (a + i)
    have es : vr l (a + i) (w - i) = l.getD (a + i) 0 + 2 * vr l (a + (i + 1)) (w - (i + 1)) := by
      unfold vr
      rw [drop_at iL, e0]; rfl
    have h16 : vr l (a + (i + 1)) (w - (i + 1)) < 65536 := Nat.lt_of_lt_of_le (vr_lt hb.2.2.2 _ _) (show 2 ^ (w - (i + 1)) ≤ 2 ^ 16 from Nat.pow_le_pow_right (by decide) (by omega))
    generalize vr l (a + (i + 1)) (w - (i + 1)) = v at *
    generalize l.getD (a + i) 0 = b at *
    have w2 : w32 (w32 (2 * (v : Int)) + (b : Int)) = ((b + 2 * v : Nat) : Int) := by rw [w32_of (x := 2 * (v : Int)) (by omega) (by omega), w32_of (by omega) (by omega)]; omega
    show F12_read_7b (F12_read_7 fu) _ _ _ m = _
    unfold F12_read_7b
    rw [if_neg c1, wa, g_t c2, hrd, w2, lt_d, wi, ← es]
    exact ih
theorem m_read {m : JM} {l : List Nat} (hb : bst m l) {a w : Nat} (hw : w ≤ 16) (haw : a + w ≤ l.length) : F12_read (a : Int) (w : Int) m = some ((vr l a w : Int), m) := by
  have h := m_rd7 hb hw haw w j_fu (Nat.le_refl _) (by unfold j_fu; omega)
  rw [show w - w = 0 by omega, show vr l (a + w) 0 = 0 from pv_z _] at h
  unfold F12_read
  rw [w32_of (by omega) (by omega), lt_d]
  exact h
theorem m_chk7 {m : JM} {l : List Nat} (hb : bst m l) {n : Nat} (hn : n ≤ l.length) : ∀ (d fu i : Nat), i + d = n → d < fu → F12_check_7 fu (some 0) (n : Int) (crc (l.take i) : Int) (i : Int) m = some (((65535 - crc (l.take n) : Nat) : Int), m)
  | _, 0, _, _, q => by omega
  | 0, fu + 1, i, e, _ => by
    have hc := crc_lt (l.take n)
    show F12_check_7b (F12_check_7 fu) _ _ _ _ m = _
    unfold F12_check_7b
    rw [show i = n by omega, if_pos (Int.le_refl _), w32_of (by omega) (by omega), show (65535 : Int) - (crc (l.take n) : Int) = ((65535 - crc (l.take n) : Nat) : Int) by omega]
  | d + 1, fu + 1, i, e, q => by
    have ih := m_chk7 hb hn d fu (i + 1) (by omega) (by omega)
    have hll := hb.2.2.1
    have c1 : ¬ (n : Int) ≤ (i : Int) := by omega
    have c2 : (0 : Int) ≤ (i : Int) ∧ (i : Int) < 320 := by omega
    have wi : w32 ((i : Int) + 1) = ((i + 1 : Nat) : Int) := by rw [w32_of (by omega) (by omega)]; omega
    have iL : i < l.length := by omega
    have hrd := hb.1 i iL
    have hbit := bl_nth hb.2.2.2 i
    have e1 : crc (l.take (i + 1)) = cst (crc (l.take i)) (l.getD i 0) := by rw [take_succ' iL, crc_app]; rfl
    have hc := crc_lt (l.take i)
    rw [e1] at ih
    generalize crc (l.take i) = r at *
    generalize l.getD i 0 = b at *
    have hx : r ^^^ b < 2 ^ 16 := Nat.xor_lt_two_pow (by omega) (by omega)
    have e2 : (r ^^^ b) % 2 = (r + b) % 2 := by have h := Nat.xor_mod_two_eq_one (a := r) (b := b); omega
    have ex : j_xor (r : Int) (b : Int) = ((r ^^^ b : Nat) : Int) := n_xor (by omega) (by omega)
    have em : j_rem ((r ^^^ b : Nat) : Int) 2 = (((r + b) % 2 : Nat) : Int) := by rw [← e2]; exact n_rem (d := 2) (by omega) (by decide) (by decide)
    have er : j_shr (r : Int) 1 = ((r / 2 : Nat) : Int) := n_shr (k := 1) (by omega) (by decide)
    show F12_check_7b (F12_check_7 fu) _ _ _ _ m = _
    unfold F12_check_7b F12_check_39
    rw [if_neg c1, Option.bind_some, g_t c2, hrd, ex, lt_d, em, er, wi]
    unfold cst at ih
    by_cases z : (r + b) % 2 = 1
    · rw [if_pos z] at ih
      rw [if_pos (by rw [z]; rfl), lt_d, show (33800 : Int) = ((33800 : Nat) : Int) from rfl, n_xor (by omega) (by decide)]
      exact ih
    · rw [if_neg z] at ih
      rw [if_neg (show ¬ (((r + b) % 2 : Nat) : Int) = 1 from fun w => z (Int.ofNat.inj w)), lt_d, show (0 : Int) = ((0 : Nat) : Int) from rfl, n_xor (by omega) (by decide), Nat.xor_zero]
      exact ih
theorem m_check {m : JM} {l : List Nat} (hb : bst m l) {n : Nat} (hn : n ≤ l.length) : F12_check (some 0) 0 (n : Int) m = some (((65535 - crc (l.take n) : Nat) : Int), m) := by
  have hll := hb.2.2.1
  have h := m_chk7 hb hn n j_fu 0 (by omega) (by unfold j_fu; omega)
  rw [List.take_zero] at h
  exact h
theorem m_right {m : JM} {on : Nat} {U : List Nat} (hU : mw m on U) (hn : m.1 174 0 (on : Int) = (U.length : Int)) (h8 : 8 ≤ U.length) :
    ∃ m', so w_by m m' ∧ ((rd U = none ∧ F12_isRight (on : Int) m = some (0, m')) ∨ (∃ l, rd U = some l ∧ bst m' l ∧ F12_isRight (on : Int) m = some (1, m'))) := by
  obtain ⟨h1, h3, h4, h5⟩ := hU
  have hU : mw m on U := ⟨h1, h3, h4, h5⟩
  have w0 : w32 (320 * (on : Int)) = ((320 * on : Nat) : Int) := by rw [w32_of (by omega) (by omega)]; omega
  have w1 : w32 (((320 * on : Nat) : Int) + (U.length : Int)) = ((320 * on + U.length : Nat) : Int) := by rw [w32_of (by omega) (by omega)]; omega
  have w2 : w32 (((320 * on : Nat) : Int) + 8) = ((320 * on + 8 : Nat) : Int) := by rw [w32_of (by omega) (by omega)]; omega
  have c1 : (0 : Int) ≤ (on : Int) ∧ (on : Int) < 8 := by omega
  have f0 := m_isFlag hU (i := 0) (by omega)
  rw [Nat.add_zero, List.drop_zero] at f0
  have st : F12_isRight (on : Int) m = if (if flg.isPrefixOf U = true then (1 : Int) else 0) = 0 then some (0, m) else F12_isRight_34 j_fu ((320 * on : Nat) : Int) ((320 * on + U.length : Nat) : Int) ((320 * on + 8 : Nat) : Int) m := by
    unfold F12_isRight
    rw [w0, lt_d, g_t c1, hn, w1, lt_d, f0, Option.bind_some, w2, lt_d]
  by_cases y : flg.isPrefixOf U = true
  · rw [if_pos y, if_neg (by decide)] at st
    have er : rd U = (uf 0 (U.drop 8)).bind (fun l => if 40 ≤ l.length ∧ l.length = 40 + 8 * vr l 16 6 ∧ 65535 - crc (l.take (l.length - 16)) = vr l (l.length - 16) 16 then some l else none) := by unfold rd; rw [if_pos y]
    rcases m_find hU (U.length - 8) j_fu 8 (by omega) (by unfold j_fu; omega) (by omega) (fun j a b => by omega) with ⟨p, a1, a2, a3, a4, a5⟩ | ⟨a1, a2⟩
    · have eu := uf_us (p - 8) 0 (U.drop 8) (bl_drop h4 8) (fun i hi => by rw [List.drop_drop]; exact a4 (8 + i) (by omega) (by omega)) (by rw [List.drop_drop, show 8 + (p - 8) = p by omega]; exact a3)
      have w3 : w32 (((320 * on + p : Nat) : Int) + 8) = ((320 * on + p + 8 : Nat) : Int) := by rw [w32_of (by omega) (by omega)]; omega
      have hU2 : mw (sI m 12 0 83 0) on U := ⟨fun j hj => by rw [rI_o (Or.inl (by decide))]; exact h1 j hj, h3, h4, h5⟩
      obtain ⟨r', m', x1, x2, x3⟩ := m_us89 (p := p) (by omega) (p - 8) j_fu 8 0 true (sI m 12 0 83 0) [] hU2 (by omega) (by unfold j_fu; omega) (by omega) ⟨ar_nil _, by rw [rI_s]; rfl, by simp, bl_nil⟩ (by simp)
      rw [List.nil_append] at x2
      rw [Bool.true_and] at x1
      have s1 : so w_by m m' := so_tr (so_I (so_rfl m) rfl _ _) x3
      have c61 : ((320 * on + p + 8 : Nat) : Int) ≤ ((320 * on + U.length : Nat) : Int) := by omega
      unfold F12_isRight_61 at a5
      rw [w3, if_pos c61, lt_d, w2, lt_d] at a5
      rw [if_pos rfl, show ((0 : Nat) : Int) = 0 from rfl] at x1
      rw [a5, x1] at st
      unfold F12_isRight_89b F12_isRight_213 at st
      rw [if_pos (Int.le_refl _)] at st
      generalize hus : us 0 ((U.drop 8).take (p - 8)) = pr at *
      obtain ⟨q, l⟩ := pr
      dsimp only at *
      refine ⟨m', s1, ?_⟩
      cases q with
      | false =>
        rw [if_neg (by decide)] at eu
        rw [if_pos (show (if false = true then (1 : Int) else 0) = 0 from rfl)] at st
        exact Or.inl ⟨by rw [er, eu]; rfl, st⟩
      | true =>
        rw [if_pos rfl] at eu
        rw [if_neg (show ¬ (if true = true then (1 : Int) else 0) = 0 by decide)] at st
        rw [eu, Option.bind_some] at er
        have g1 := x2.2.1
        have g2 := x2.2.2.1
        by_cases c40 : 40 ≤ l.length
        · rw [if_neg (by omega), show (16 : Int) = ((16 : Nat) : Int) from rfl, show (6 : Int) = ((6 : Nat) : Int) from rfl, m_read x2 (by decide) (by omega), Option.bind_some] at st
          dsimp only at st
          have hn6 := vr_lt x2.2.2.2 16 6
          have ew : w32 (40 + w32 (8 * (vr l 16 6 : Int))) = ((40 + 8 * vr l 16 6 : Nat) : Int) := by
            rw [w32_of (x := 8 * (vr l 16 6 : Int)) (by omega) (by omega), w32_of (by omega) (by omega)]; omega
          have w5 : w32 (m'.1 12 0 83 - ((16 : Nat) : Int)) = ((l.length - 16 : Nat) : Int) := by rw [w32_of (by omega) (by omega)]; omega
          rw [ew] at st
          by_cases cl : l.length = 40 + 8 * vr l 16 6
          · rw [if_pos (by omega), w5, m_check x2 (by omega), Option.bind_some] at st
            dsimp only at st
            rw [w5, m_read x2 (by decide) (by omega), Option.bind_some] at st
            dsimp only at st
            by_cases cc : 65535 - crc (l.take (l.length - 16)) = vr l (l.length - 16) 16
            · rw [if_pos (by rw [cc])] at st
              exact Or.inr ⟨l, by rw [er, if_pos ⟨c40, cl, cc⟩], x2, st⟩
            · rw [if_neg (show ¬ ((65535 - crc (l.take (l.length - 16)) : Nat) : Int) = (vr l (l.length - 16) 16 : Int) from fun w => cc (Int.ofNat.inj w))] at st
              exact Or.inl ⟨by rw [er, if_neg (fun q => cc q.2.2)], st⟩
          · rw [if_neg (by omega)] at st
            exact Or.inl ⟨by rw [er, if_neg (fun q => cl q.2.1)], st⟩
        · rw [if_pos (by omega)] at st
          exact Or.inl ⟨by rw [er, if_neg (fun q => c40 q.1)], st⟩
    · refine ⟨m, so_rfl m, Or.inl ⟨?_, by rw [st, a2]⟩⟩
      rw [er, uf_none _ 0 (fun i => by rw [List.drop_drop]; exact a1 (8 + i) (by omega))]
      rfl
  · rw [if_neg y, if_pos rfl] at st
    exact ⟨m, so_rfl m, Or.inl ⟨by unfold rd; rw [if_neg y], st⟩⟩
