/-! ===== the class reads bits ===== -/
theorem nx_or (a b : Nat) : nI a ||| nI b = nI (a ||| b) := by
  apply Int32.toBitVec_inj.1
  show BitVec.ofNat 32 a ||| BitVec.ofNat 32 b = BitVec.ofNat 32 (a ||| b)
  apply BitVec.eq_of_getLsbD_eq
  intro i hi
  simp [hi]
theorem n_or {a b : Nat} (ha : a < 2 ^ 31) (hb : b < 2 ^ 31) : j_or a b = ((a ||| b : Nat) : Int) := by
  unfold j_or
  rw [n_oi, n_oi, nx_or, nI_toInt (Nat.or_lt_two_pow ha hb)]
theorem pv_succ : ∀ (i : Nat) (m : List Nat), pv m (i + 1) = pv m i + m.getD i 0 * 2 ^ i
  | 0, [] => rfl
  | i + 1, [] => by simp [pv]
  | 0, b :: t => by simp [pv]
  | i + 1, b :: t => by
    show b + 2 * pv t (i + 1) = (b + 2 * pv t i) + t.getD i 0 * 2 ^ (i + 1)
    rw [pv_succ i t, Nat.pow_succ, Nat.mul_add, ← Nat.mul_assoc, Nat.mul_comm 2 (t.getD i 0), Nat.mul_assoc, Nat.mul_comm 2 (2 ^ i)]
    omega
theorem pv_z (m : List Nat) : pv m 0 = 0 := by cases m <;> rfl
theorem pv_lt : ∀ (i : Nat) (m : List Nat), bl m → pv m i < 2 ^ i
  | 0, _, _ => by simp [pv]
  | i + 1, [], _ => by simp [pv]; exact Nat.two_pow_pos _
  | i + 1, b :: t, h => by
    have h2 := bl_tl h
    have := pv_lt i t h2.2
    show b + 2 * pv t i < _
    rw [Nat.pow_succ]; omega
theorem bl_drop {l : List Nat} (h : bl l) (a : Nat) : bl (l.drop a) := fun b q => h b (List.mem_of_mem_drop q)
theorem vr_lt {l : List Nat} (h : bl l) (a w : Nat) : vr l a w < 2 ^ w := pv_lt w _ (bl_drop h a)
theorem bl_nth {l : List Nat} (h : bl l) (i : Nat) : l.getD i 0 < 2 := by
  rw [List.getD_eq_getElem?_getD]
  by_cases z : i < l.length
  · rw [List.getElem?_eq_getElem z]; exact h _ (List.getElem_mem z)
  · rw [List.getElem?_eq_none (by omega)]; simp
theorem vr_succ (l : List Nat) (a i : Nat) : vr l a (i + 1) = vr l a i + l.getD (a + i) 0 * 2 ^ i := by
  unfold vr
  rw [pv_succ]
  congr 2
  simp [List.getElem?_drop]
/-- the wire's body -/
def wb (c : JM) (l : List Nat) : Prop := ar (c.1 37 0) l ∧ c.1 10 0 5 = (l.length : Int) ∧ l.length ≤ 256 ∧ bl l
theorem f_num5 {c : JM} {l : List Nat} (hb : wb c l) {a w : Nat} (hw : w ≤ 16) (haw : a + w ≤ l.length) : ∀ (d fu i : Nat), i + d = w → d < fu → F10_number_5 fu (a : Int) (w : Int) (vr l a i : Int) (i : Int) c = some ((vr l a w : Int), c)
  | _, 0, _, _, q => by omega
  | 0, fu + 1, i, e, _ => by
    show F10_number_5b (F10_number_5 fu) _ _ _ _ c = _
    unfold F10_number_5b
    rw [if_pos (by omega), show i = w by omega]
  | d + 1, fu + 1, i, e, q => by
    obtain ⟨h1, h2, h3, h4⟩ := hb
    have ih := f_num5 ⟨h1, h2, h3, h4⟩ hw haw d fu (i + 1) (by omega) (by omega)
    have wi : w32 ((i : Int) + 1) = ((i + 1 : Nat) : Int) := by rw [w32_of (by omega) (by omega)]; omega
    have wa : w32 ((a : Int) + (i : Int)) = ((a + i : Nat) : Int) := by rw [w32_of (by omega) (by omega)]; omega
    have c1 : ¬ (w : Int) ≤ (i : Int) := by omega
    have c2 : ¬ c.1 10 0 5 ≤ ((a + i : Nat) : Int) := by omega
    have c3 : (0 : Int) ≤ ((a + i : Nat) : Int) ∧ ((a + i : Nat) : Int) < 256 := by omega
    have hi31 : i < 31 := by omega
    have hrd := h1 (a + i) (by omega)
    have hbit := bl_nth h4 (a + i)
    have hs := vr_succ l a i
    have hsh : 1 * 2 ^ i < 2 ^ 31 := by rw [Nat.one_mul]; exact Nat.pow_lt_pow_right (by decide) hi31
    have hlt := vr_lt h4 a i
    have hv31 : vr l a i < 2 ^ 31 := Nat.lt_trans hlt (by rw [Nat.one_mul] at hsh; exact hsh)
    have i32 : i < 32 := Nat.lt_trans hi31 (by decide)
    show F10_number_5b (F10_number_5 fu) _ _ _ _ c = _
    unfold F10_number_5b F10_number_42
    rw [if_neg c1, wa, wi, if_neg c2, g_t c3, hrd]
    by_cases z : l.getD (a + i) 0 = 1
    · have hs' : vr l a i + 1 * 2 ^ i = vr l a (i + 1) := by rw [hs, z]
      rw [z, if_pos (show ((1 : Nat) : Int) = 1 from rfl), lt_d]
      have e1 : j_or (vr l a i : Int) (j_shl 1 (i : Int)) = (vr l a (i + 1) : Int) := by
        rw [show (1 : Int) = ((1 : Nat) : Int) from rfl, n_shl i32 hsh, n_or hv31 hsh, k_or hlt, hs']
      rw [e1]
      exact ih
    · have z0 : l.getD (a + i) 0 = 0 := by
        rcases Nat.lt_succ_iff_lt_or_eq.1 hbit with h | h
        · exact Nat.lt_one_iff.1 h
        · exact absurd h z
      have hs' : vr l a (i + 1) = vr l a i := by rw [hs, z0]; simp
      rw [z0, if_neg (by decide), ← hs']
      exact ih
theorem f_num {c : JM} {l : List Nat} (hb : wb c l) {a w : Nat} (hw : w ≤ 16) (haw : a + w ≤ l.length) : F10_number (a : Int) (w : Int) c = some ((vr l a w : Int), c) := by
  have h := f_num5 hb hw haw w j_fu 0 (by omega) (by unfold j_fu; omega)
  rw [show vr l a 0 = 0 from pv_z _] at h
  exact h
/-- the wire's bits -/
def wu (c : JM) (U : List Nat) : Prop := ar (c.1 36 0) U ∧ c.1 10 0 1 = (U.length : Int) ∧ U.length ≤ 256 ∧ bl U
theorem drop_at {U : List Nat} {i : Nat} (h : i < U.length) : U.drop i = U.getD i 0 :: U.drop (i + 1) := by
  rw [List.drop_eq_getElem_cons h, List.getD_eq_getElem?_getD, List.getElem?_eq_getElem h]; rfl
theorem flg_at : ∀ j, j < 8 → flg.drop j = (if j = 0 ∨ j = 7 then 0 else 1) :: flg.drop (j + 1) := by decide
theorem f_fl19 {c : JM} {U : List Nat} (hU : wu c U) {i : Nat} (hi : i + 8 ≤ U.length) : ∀ (d fu j : Nat), j + d = 8 → d < fu → F10_isFlag_19 fu (i : Int) (j : Int) c = some (if (flg.drop j).isPrefixOf (U.drop (i + j)) = true then 1 else 0, c)
  | _, 0, _, _, q => by omega
  | 0, fu + 1, j, e, _ => by
    show F10_isFlag_19b (F10_isFlag_19 fu) _ _ c = _
    unfold F10_isFlag_19b
    rw [if_pos (by omega), show j = 8 by omega]
    rfl
  | d + 1, fu + 1, j, e, q => by
    have ih := f_fl19 hU hi d fu (j + 1) (by omega) (by omega)
    obtain ⟨h1, h2, h3, h4⟩ := hU
    have hrd := h1 (i + j) (by omega)
    have wi : w32 ((j : Int) + 1) = ((j + 1 : Nat) : Int) := by rw [w32_of (by omega) (by omega)]; omega
    have wa : w32 ((i : Int) + (j : Int)) = ((i + j : Nat) : Int) := by rw [w32_of (by omega) (by omega)]; omega
    have e1 := flg_at j (by omega)
    have e2 := drop_at (U := U) (i := i + j) (by omega)
    have hstep : ∀ v : Nat, F10_isFlag_48 (F10_isFlag_19 fu) (i : Int) (j : Int) (U.getD (i + j) 0 : Int) (v : Int) c = some (if ((v :: flg.drop (j + 1)).isPrefixOf (U.getD (i + j) 0 :: U.drop (i + j + 1))) = true then 1 else 0, c) := fun v => by
      unfold F10_isFlag_48
      by_cases z : U.getD (i + j) 0 = v
      · rw [if_pos (by rw [z]), wi, ih, z]
        simp [List.isPrefixOf, Nat.add_assoc]
      · have : ¬ v = U.getD (i + j) 0 := fun w => z w.symm
        have hne : (v == U.getD (i + j) 0) = false := beq_false_of_ne this
        have hne2 : ¬ (U.getD (i + j) 0 : Int) = (v : Int) := fun w => z (Int.ofNat.inj w)
        rw [if_neg hne2]
        simp only [List.isPrefixOf, hne, Bool.false_and, Bool.false_eq_true, if_false]
    show F10_isFlag_19b (F10_isFlag_19 fu) _ _ c = _
    unfold F10_isFlag_19b F10_isFlag_43
    rw [if_neg (by omega), wa, g_t (by omega), hrd, e1, e2]
    by_cases z0 : j = 0
    · rw [if_pos (by omega), if_pos (Or.inl z0)]; exact hstep 0
    · by_cases z7 : j = 7
      · rw [if_neg (by omega), if_pos (by omega), if_pos (Or.inr z7)]; exact hstep 0
      · rw [if_neg (by omega), if_neg (by omega), if_neg (show ¬ (j = 0 ∨ j = 7) by omega)]; exact hstep 1
theorem flg_short {l : List Nat} (h : l.length < 8) : ¬ flg.isPrefixOf l = true := fun q => by
  have := (List.isPrefixOf_iff_prefix.1 q).length_le
  have e : flg.length = 8 := rfl
  omega
theorem f_isFlag {c : JM} {U : List Nat} (hU : wu c U) (i : Nat) (hi : i ≤ 300) : F10_isFlag (i : Int) c = some (if flg.isPrefixOf (U.drop i) = true then 1 else 0, c) := by
  unfold F10_isFlag F10_isFlag_15
  rw [if_neg (by omega), w32_of (by omega) (by omega), hU.2.1]
  by_cases z : i + 8 ≤ U.length
  · rw [if_pos (by omega)]
    exact f_fl19 hU z 8 j_fu 0 (by omega) (by unfold j_fu; omega)
  · rw [if_neg (by omega), if_neg (flg_short (by rw [List.length_drop]; omega))]
theorem uf_short : ∀ (l : List Nat) (r : Nat), l.length < 8 → uf r l = none
  | [], _, _ => rfl
  | b :: t, r, h => by
    have ht : t.length < 8 := by simp at h; omega
    unfold uf
    rw [if_neg (flg_short h)]
    by_cases z : r = 5
    · rw [if_pos z]
      by_cases y : b = 1
      · rw [if_pos y]
      · rw [if_neg y]; exact uf_short t 0 ht
    · rw [if_neg z, uf_short t _ ht]; rfl
def w_rb (k : Nat) (j : Int) : Bool := k == 37 || (k == 10 && j == 5)
theorem f_rb10 {U : List Nat} : ∀ (d fu i r : Nat) (c : JM) (P : List Nat), wu c U → i + d = U.length → d < fu → r ≤ 5 → wb c P → P.length + 8 ≤ i →
    ∃ v c', F10_readBody_10 fu (r : Int) (i : Int) c = some (v, c') ∧ so w_rb c c' ∧ ((uf r (U.drop i) = none ∧ v = 0) ∨ (∃ l, uf r (U.drop i) = some l ∧ v = 1 ∧ wb c' (P ++ l)))
  | _, 0, _, _, _, _, _, _, q, _, _, _ => by omega
  | d, fu + 1, i, r, c, P, hU, e, q, hr, hP, hi => by
    obtain ⟨h1, h2, h3, h4⟩ := hU
    have hU : wu c U := ⟨h1, h2, h3, h4⟩
    have w8 : w32 ((i : Int) + 8) = (i : Int) + 8 := w32_of (by omega) (by omega)
    by_cases z : U.length < i + 8
    · refine ⟨0, c, ?_, so_rfl c, Or.inl ⟨uf_short _ _ (by rw [List.length_drop]; omega), rfl⟩⟩
      show F10_readBody_10b (F10_readBody_10 fu) _ _ c = _
      unfold F10_readBody_10b
      rw [w8, if_pos (by omega)]
    · obtain ⟨d', rfl⟩ : ∃ d', d = d' + 1 := ⟨d - 1, by omega⟩
      have i300 : i ≤ 300 := by omega
      have iU : i < U.length := by omega
      have nz : ¬ c.1 10 0 1 < (i : Int) + 8 := by omega
      have i256 : (0 : Int) ≤ (i : Int) ∧ (i : Int) < 256 := by omega
      have wi : w32 ((i : Int) + 1) = ((i + 1 : Nat) : Int) := by rw [w32_of (by omega) (by omega)]; omega
      have p256 : (0 : Int) ≤ (P.length : Int) ∧ (P.length : Int) < 256 := by omega
      have wp : w32 ((P.length : Int) + 1) = ((P.length + 1 : Nat) : Int) := by rw [w32_of (by omega) (by omega)]; omega
      have ef := f_isFlag hU i i300
      have ed := drop_at (U := U) (i := i) iU
      have hrd := h1 i iU
      have hbit := bl_nth h4 i
      by_cases y : flg.isPrefixOf (U.drop i) = true
      · refine ⟨1, c, ?_, so_rfl c, Or.inr ⟨[], ?_, rfl, by simpa using hP⟩⟩
        · show F10_readBody_10b (F10_readBody_10 fu) _ _ c = _
          unfold F10_readBody_10b
          rw [w8, if_neg nz, ef, if_pos y, Option.bind_some, if_neg (by simp)]
        · rw [ed] at y ⊢
          unfold uf
          rw [if_pos y]
      · have eu : uf r (U.drop i) = if r = 5 then (if U.getD i 0 = 1 then none else uf 0 (U.drop (i + 1))) else (uf (if U.getD i 0 = 1 then r + 1 else 0) (U.drop (i + 1))).map (U.getD i 0 :: ·) := by
          rw [ed] at y ⊢
          conv => lhs; unfold uf
          rw [if_neg y]
        have step : F10_readBody_10 (fu + 1) (r : Int) (i : Int) c = if (r : Int) = 5 then (if (U.getD i 0 : Int) = 1 then some (0, c) else F10_readBody_89 (F10_readBody_10 fu) 0 (i : Int) c) else (if (U.getD i 0 : Int) = 1 then F10_readBody_88 (F10_readBody_10 fu) (i : Int) (w32 ((r : Int) + 1)) (sI (sI c 37 0 (P.length : Int) (U.getD i 0 : Int)) 10 0 5 ((P.length + 1 : Nat) : Int)) else F10_readBody_88 (F10_readBody_10 fu) (i : Int) 0 (sI (sI c 37 0 (P.length : Int) (U.getD i 0 : Int)) 10 0 5 ((P.length + 1 : Nat) : Int))) := by
          show F10_readBody_10b (F10_readBody_10 fu) _ _ c = _
          unfold F10_readBody_10b
          have e2b : j_i2b (U.getD i 0 : Int) = (U.getD i 0 : Int) := i2b_of (by omega) (by omega)
          rw [w8, if_neg nz, ef, if_neg y, Option.bind_some, if_pos rfl, g_t i256, lt_d]
          dsimp only
          rw [hrd, hP.2.1, g_t p256, lt_d, lt_d, e2b, e2b, rI_o (Or.inl (by decide)), hP.2.1, wp]
        by_cases z5 : r = 5
        · by_cases zb : U.getD i 0 = 1
          · refine ⟨0, c, ?_, so_rfl c, Or.inl ⟨?_, rfl⟩⟩
            · rw [step, if_pos (by omega), if_pos (by omega)]
            · rw [eu, if_pos z5, if_pos zb]
          · obtain ⟨v, c', x1, x2, x3⟩ := f_rb10 d' fu (i + 1) 0 c P hU (by omega) (by omega) (by omega) hP (by omega)
            refine ⟨v, c', ?_, x2, ?_⟩
            · rw [step, if_pos (by omega), if_neg (by omega)]
              unfold F10_readBody_89
              rw [wi]; exact x1
            · rw [eu, if_pos z5, if_neg zb]; exact x3
        · obtain ⟨h5, h6, h7, h8⟩ := hP
          have hP2 : wb (sI (sI c 37 0 (P.length : Int) (U.getD i 0 : Int)) 10 0 5 ((P.length + 1 : Nat) : Int)) (P ++ [U.getD i 0]) := by
            refine ⟨ar_snoc (ar_cg h5 (fun j hj => ?_)) ?_, ?_, ?_, bl_app h8 (bl_cons hbit bl_nil)⟩
            · rw [rI_o (by omega), rI_o (by omega)]
            · rw [rI_o (by omega), rI_s]
            · rw [rI_s]; simp
            · simp; omega
          have hU2 : wu (sI (sI c 37 0 (P.length : Int) (U.getD i 0 : Int)) 10 0 5 ((P.length + 1 : Nat) : Int)) U := ⟨ar_cg h1 (fun j hj => by rw [rI_o (by omega), rI_o (by omega)]), by rw [rI_o (by omega), rI_o (by omega)]; exact h2, h3, h4⟩
          have hso : so w_rb c (sI (sI c 37 0 (P.length : Int) (U.getD i 0 : Int)) 10 0 5 ((P.length + 1 : Nat) : Int)) := so_I (so_I (so_rfl c) rfl _ _) rfl _ _
          have fin : ∀ r', r' ≤ 5 → uf r (U.drop i) = (uf r' (U.drop (i + 1))).map (U.getD i 0 :: ·) → F10_readBody_10 (fu + 1) (r : Int) (i : Int) c = F10_readBody_10 fu (r' : Int) ((i + 1 : Nat) : Int) (sI (sI c 37 0 (P.length : Int) (U.getD i 0 : Int)) 10 0 5 ((P.length + 1 : Nat) : Int)) → ∃ v c', F10_readBody_10 (fu + 1) (r : Int) (i : Int) c = some (v, c') ∧ so w_rb c c' ∧ ((uf r (U.drop i) = none ∧ v = 0) ∨ (∃ l, uf r (U.drop i) = some l ∧ v = 1 ∧ wb c' (P ++ l))) := fun r' hr' eu' es => by
            obtain ⟨v, c', x1, x2, x3⟩ := f_rb10 d' fu (i + 1) r' _ (P ++ [U.getD i 0]) hU2 (by omega) (by omega) hr' hP2 (by simp; omega)
            refine ⟨v, c', by rw [es]; exact x1, so_tr hso x2, ?_⟩
            rcases x3 with ⟨y1, y2⟩ | ⟨l, y1, y2, y3⟩
            · exact Or.inl ⟨by rw [eu', y1]; rfl, y2⟩
            · exact Or.inr ⟨U.getD i 0 :: l, by rw [eu', y1]; rfl, y2, by simpa using y3⟩
          by_cases zb : U.getD i 0 = 1
          · refine fin (r + 1) (by omega) (by rw [eu, if_neg z5, if_pos zb]) ?_
            rw [step, if_neg (by omega), if_pos (by omega)]
            unfold F10_readBody_88 F10_readBody_89
            rw [wi, w32_of (by omega) (by omega)]
            rfl
          · refine fin 0 (by omega) (by rw [eu, if_neg z5, if_neg zb]) ?_
            rw [step, if_neg (by omega), if_neg (by omega)]
            unfold F10_readBody_88 F10_readBody_89
            rw [wi]
            rfl
/-- what bytes make a message -/
def sok (N : Int) (n : Nat) (b : Nat → Nat) : Prop := 2 ≤ n ∧ (b 0 : Int) < N ∧ ((b 1 = 4 ∧ n = 3) ∨ ((b 1 = 2 ∨ b 1 = 3 ∨ b 1 = 5) ∧ n = 2) ∨ (b 1 = 1 ∧ 4 ≤ n ∧ b 2 ≤ 5 ∧ b 3 ≤ 12 ∧ n = 4 + b 3 ∧ ∀ j, 4 ≤ j → j < n → b j ≤ 11))
def dm (N : Int) (n : Nat) (b : Nat → Nat) (x : Int) : Prop := (n = 0 ∧ x = -1) ∨ (0 < n ∧ x = 0 ∧ ¬ sok N n b) ∨ (∃ L, mg L x ∧ L.length = n ∧ (∀ j, j < n → b j = L.getD j 0))
theorem f_byte {c : JM} {l : List Nat} (hb : wb c l) {j : Nat} (hj : 32 + 8 * j ≤ l.length) : F10_readByte (j : Int) c = some ((vr l (24 + 8 * j) 8 : Int), c) := by
  unfold F10_readByte
  have h := hb.2.2.1
  rw [w32_of (x := 8 * (j : Int)) (by omega) (by omega), w32_of (by omega) (by omega), show (24 : Int) + 8 * (j : Int) = ((24 + 8 * j : Nat) : Int) by omega, show (8 : Int) = ((8 : Nat) : Int) from rfl, f_num hb (by decide) (by omega), Option.bind_some]
theorem f_iam46 {c : JM} {l : List Nat} (hb : wb c l) {k w cnt : Nat} (hk : k < 16) (hw : w ≤ 5) (hc : cnt ≤ 12) (hl : l.length = 40 + 8 * (4 + cnt)) : ∀ (d fu i : Nat) (K : List Nat), i + d = cnt → d < fu → K.length = i → (∀ q ∈ K, q < 12) → (∀ j, j < i → K.getD j 0 = vr l (24 + 8 * (4 + j)) 8) →
    ∃ x, F10_readIam_46 fu (k : Int) (w : Int) (cnt : Int) (k_P K : Int) (i : Int) c = some (x, c) ∧ ((x = 0 ∧ ∃ j, j < cnt ∧ 12 ≤ vr l (24 + 8 * (4 + j)) 8) ∨ (∃ K', k_ok K' ∧ K'.length = cnt ∧ (∀ j, j < cnt → K'.getD j 0 = vr l (24 + 8 * (4 + j)) 8) ∧ x = ((2 ^ 59 + k * 2 ^ 55 + w * 2 ^ 52 + k_P K' : Nat) : Int)))
  | _, 0, _, _, _, q, _, _, _ => by omega
  | 0, fu + 1, i, K, e, _, hK, hK2, hK3 => by
    have hok : k_ok K := ⟨by omega, hK2⟩
    have hP := k_P_lt hok
    refine ⟨_, ?_, Or.inr ⟨K, hok, by omega, fun j hj => hK3 j (by omega), rfl⟩⟩
    show F10_readIam_46b (F10_readIam_46 fu) _ _ _ _ _ c = _
    unfold F10_readIam_46b
    rw [if_pos (by omega), f_packIam (by omega) hok, Option.bind_some]
    dsimp only
    rw [show (1 : Int) = ((1 : Nat) : Int) from rfl, f_pack (by decide) hk (by omega), Option.bind_some, show 1 * 2 ^ 59 + k * 2 ^ 55 + (w * 2 ^ 52 + k_P K) = 2 ^ 59 + k * 2 ^ 55 + w * 2 ^ 52 + k_P K by omega]
  | d + 1, fu + 1, i, K, e, q, hK, hK2, hK3 => by
    have hok : k_ok K := ⟨by omega, hK2⟩
    have by4 := f_byte hb (j := 4 + i) (by omega)
    have wi : w32 ((i : Int) + 1) = ((i + 1 : Nat) : Int) := by rw [w32_of (by omega) (by omega)]; omega
    have w4 : w32 (4 + (i : Int)) = ((4 + i : Nat) : Int) := by rw [w32_of (by omega) (by omega)]; omega
    have st : F10_readIam_46 (fu + 1) (k : Int) (w : Int) (cnt : Int) (k_P K : Int) (i : Int) c = if (vr l (24 + 8 * (4 + i)) 8 : Int) < 12 then (F11_withKey (k_P K : Int) (vr l (24 + 8 * (4 + i)) 8 : Int) c).bind (fun q4 => F10_readIam_46 fu (k : Int) (w : Int) (cnt : Int) q4.1 ((i + 1 : Nat) : Int) q4.2) else some (0, c) := by
      show F10_readIam_46b (F10_readIam_46 fu) _ _ _ _ _ c = _
      unfold F10_readIam_46b
      rw [if_neg (by omega), w4, by4, Option.bind_some, wi]
    by_cases z : vr l (24 + 8 * (4 + i)) 8 < 12
    · obtain ⟨x, x1, x2⟩ := f_iam46 hb hk hw hc hl d fu (i + 1) (K ++ [vr l (24 + 8 * (4 + i)) 8]) (by omega) (by omega) (by simp; omega) (fun q hq => by
        rcases List.mem_append.1 hq with h | h
        · exact hK2 q h
        · rw [List.mem_singleton.1 h]; exact z) (fun j hj => by
        by_cases y : j = i
        · subst y; rw [← hK]; simp
        · rw [← hK3 j (by omega)]
          have : j < K.length := by omega
          simp [List.getElem?_append_left this])
      refine ⟨x, ?_, x2⟩
      rw [st, if_pos (by omega), f_withKey hok (by omega) z, Option.bind_some]
      exact x1
    · refine ⟨0, ?_, Or.inl ⟨rfl, i, by omega, by omega⟩⟩
      rw [st, if_neg (by omega)]
theorem f_readMsg {c : JM} {l : List Nat} (hb : wb c l) {n : Nat} (hl : l.length = 40 + 8 * n) {N : Int} (hN : 1 ≤ N ∧ N ≤ 16) : ∃ x, F10_readMessage (n : Int) N c = some (x, c) ∧ dm N n (fun j => vr l (24 + 8 * j) 8) x := by
  have h256 := hb.2.2.1
  unfold F10_readMessage
  by_cases n0 : n = 0
  · subst n0
    exact ⟨-1, by rw [if_pos (show ((0 : Nat) : Int) = 0 from rfl)], Or.inl ⟨rfl, rfl⟩⟩
  · have b0 := f_byte hb (j := 0) (by omega)
    have b1 := f_byte hb (j := 1) (by omega)
    rw [if_neg (by omega), show (0 : Int) = ((0 : Nat) : Int) from rfl, b0, Option.bind_some]
    dsimp only
    rw [show (1 : Int) = ((1 : Nat) : Int) from rfl, b1, Option.bind_some]
    dsimp only
    unfold F10_readMessage_31
    simp only [Nat.mul_zero, Nat.add_zero, Nat.mul_one]
    have bad : ∀ (b : Nat → Nat), (∀ j, b j = vr l (24 + 8 * j) 8) → ¬ sok N n b → dm N n (fun j => vr l (24 + 8 * j) 8) 0 := fun b hb hs => Or.inr (Or.inl ⟨by omega, rfl, fun q => hs (by
      have : b = fun j => vr l (24 + 8 * j) 8 := funext hb
      rw [this]; exact q)⟩)
    by_cases n1 : n < 2
    · rw [if_pos (by omega)]
      exact ⟨_, rfl, bad _ (fun _ => rfl) (fun q => by have := q.1; omega)⟩
    · rw [if_neg (by omega)]
      by_cases hk : (vr l 24 8 : Int) < N
      · rw [if_pos hk]
        generalize hk0 : vr l 24 8 = k at *
        generalize ht0 : vr l (24 + 8) 8 = ty at *
        have hk0' : vr l (24 + 8 * 0) 8 = k := hk0
        have ht0' : vr l (24 + 8 * 1) 8 = ty := ht0
        have hkk : k < 16 := by omega
        -- two bytes
        have two : ∀ t : Nat, (t = 2 ∨ t = 3 ∨ t = 5) → ty = t → ∃ x, (if (n : Int) = 2 then (F9_pack (ty : Int) (k : Int) 0 c).bind (fun q4 => some (q4.1, q4.2)) else some (0, c)) = some (x, c) ∧ dm N n (fun j => vr l (24 + 8 * j) 8) x := fun t ht e => by
          by_cases n2 : n = 2
          · rw [if_pos (by omega), show (0 : Int) = ((0 : Nat) : Int) from rfl, f_pack (by omega) hkk (by decide), Option.bind_some]
            refine ⟨_, rfl, Or.inr (Or.inr ⟨[k, ty], Or.inl ⟨k, ty, hkk, by omega, rfl, by rw [Nat.add_zero]⟩, by simp [n2], fun j hj => ?_⟩)⟩
            have : j = 0 ∨ j = 1 := by omega
            rcases this with rfl | rfl
            · exact hk0'
            · exact ht0'
          · rw [if_neg (by omega)]
            refine ⟨_, rfl, bad _ (fun _ => rfl) (fun q => ?_)⟩
            obtain ⟨_, _, q⟩ := q
            dsimp only at q
            rw [ht0'] at q
            omega
        by_cases t1 : ty = 1
        · rw [if_pos (by omega)]
          unfold F10_readIam F10_readIam_38
          have b2 := f_byte hb (j := 2) (by omega)
          have b3 := f_byte hb (j := 3) (by omega)
          rw [show (2 : Int) = ((2 : Nat) : Int) from rfl, b2, Option.bind_some]
          dsimp only
          rw [show (3 : Int) = ((3 : Nat) : Int) from rfl, b3, Option.bind_some]
          dsimp only
          generalize hw0 : vr l (24 + 8 * 2) 8 = w at *
          generalize hc0 : vr l (24 + 8 * 3) 8 = cnt at *
          have nos : ¬ (4 ≤ n ∧ w ≤ 5 ∧ cnt ≤ 12 ∧ n = 4 + cnt) → ∃ x, (some ((0 : Int), c)).bind (fun q3 => some (q3.1, q3.2)) = some (x, c) ∧ dm N n (fun j => vr l (24 + 8 * j) 8) x := fun hn => by
            refine ⟨0, rfl, bad _ (fun _ => rfl) (fun q => ?_)⟩
            obtain ⟨_, _, q⟩ := q
            dsimp only at q
            rw [ht0'] at q
            rcases q with q | q | ⟨_, q1, q2, q3, q4, _⟩
            · omega
            · omega
            · rw [hw0] at q2; rw [hc0] at q3 q4; exact hn ⟨q1, q2, q3, q4⟩
          by_cases c1 : n < 4
          · rw [if_pos (by omega)]; exact nos (by omega)
          · by_cases c2 : 5 < w
            · rw [if_neg (by omega), if_pos (by omega)]; exact nos (by omega)
            · by_cases c3 : 12 < cnt
              · rw [if_neg (by omega), if_neg (by omega), if_pos (by omega)]; exact nos (by omega)
              · by_cases c4 : n = 4 + cnt
                · rw [if_neg (by omega), if_neg (by omega), if_neg (by omega), if_pos (by rw [w32_of (by omega) (by omega)]; omega)]
                  obtain ⟨x, x1, x2⟩ := f_iam46 hb hkk (by omega : w ≤ 5) (by omega : cnt ≤ 12) (by omega) cnt j_fu 0 [] (by omega) (by unfold j_fu; omega) rfl (fun _ q => by cases q) (fun j hj => by omega)
                  have e0 : ((k_P [] : Nat) : Int) = 0 := rfl
                  rw [e0] at x1
                  have x1' : F10_readIam_46 j_fu (k : Int) (w : Int) (cnt : Int) 0 0 c = some (x, c) := x1
                  refine ⟨x, by rw [x1', Option.bind_some], ?_⟩
                  rcases x2 with ⟨rfl, j, j1, j2⟩ | ⟨K', k1, k2, k3, rfl⟩
                  · refine bad _ (fun _ => rfl) (fun q => ?_)
                    obtain ⟨_, _, q⟩ := q
                    dsimp only at q
                    rw [ht0'] at q
                    rcases q with q | q | ⟨_, _, _, _, _, q⟩
                    · omega
                    · omega
                    · have := q (4 + j) (by omega) (by omega)
                      omega
                  · refine Or.inr (Or.inr ⟨k :: 1 :: w :: K'.length :: K', Or.inr (Or.inr ⟨k, w, K', hkk, by omega, k1, rfl, rfl⟩), by simp; omega, fun j hj => ?_⟩)
                    by_cases y0 : j = 0
                    · subst y0; exact hk0'
                    · by_cases y1 : j = 1
                      · subst y1; show vr l (24 + 8 * 1) 8 = _; rw [ht0', t1]; rfl
                      · by_cases y2 : j = 2
                        · subst y2; exact hw0
                        · by_cases y3 : j = 3
                          · subst y3; show vr l (24 + 8 * 3) 8 = _; rw [hc0, ← k2]; rfl
                          · obtain ⟨a, rfl⟩ : ∃ a, j = 4 + a := ⟨j - 4, by omega⟩
                            show vr l (24 + 8 * (4 + a)) 8 = _
                            rw [← k3 a (by omega), show 4 + a = a + 4 by omega]; rfl
                · rw [if_neg (by omega), if_neg (by omega), if_neg (by omega), if_neg (by rw [w32_of (by omega) (by omega)]; omega)]; exact nos (by omega)
        · rw [if_neg (by omega)]
          by_cases t2 : ty = 2
          · rw [if_pos (by omega)]; exact two 2 (by omega) t2
          · rw [if_neg (by omega)]
            by_cases t3 : ty = 3
            · rw [if_pos (by omega)]; exact two 3 (by omega) t3
            · rw [if_neg (by omega)]
              by_cases t4 : ty = 4
              · rw [if_pos (by omega)]
                by_cases n3 : n = 3
                · have b2 := f_byte hb (j := 2) (by omega)
                  have hlt := vr_lt hb.2.2.2 (24 + 8 * 2) 8
                  rw [if_pos (by omega), show (2 : Int) = ((2 : Nat) : Int) from rfl, b2, Option.bind_some]
                  dsimp only
                  rw [f_pack (by omega) hkk (by omega), Option.bind_some]
                  refine ⟨_, rfl, Or.inr (Or.inr ⟨[k, 4, vr l (24 + 8 * 2) 8], Or.inr (Or.inl ⟨k, _, hkk, hlt, rfl, by rw [t4]⟩), by simp [n3], fun j hj => ?_⟩)⟩
                  have : j = 0 ∨ j = 1 ∨ j = 2 := by omega
                  rcases this with rfl | rfl | rfl
                  · exact hk0'
                  · show vr l (24 + 8 * 1) 8 = _
                    rw [ht0', t4]; rfl
                  · rfl
                · rw [if_neg (by omega)]
                  refine ⟨_, rfl, bad _ (fun _ => rfl) (fun q => ?_)⟩
                  obtain ⟨_, _, q⟩ := q
                  dsimp only at q
                  rw [ht0'] at q
                  omega
              · rw [if_neg (by omega)]
                by_cases t5 : ty = 5
                · rw [if_pos (by omega)]; exact two 5 (by omega) t5
                · rw [if_neg (by omega)]
                  refine ⟨_, rfl, bad _ (fun _ => rfl) (fun q => ?_)⟩
                  obtain ⟨_, _, q⟩ := q
                  dsimp only at q
                  rw [ht0'] at q
                  omega
      · rw [if_neg hk]
        exact ⟨_, rfl, bad _ (fun _ => rfl) (fun q => hk q.2.1)⟩
