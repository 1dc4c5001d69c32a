/-! ===== the class writes a unit ===== -/
theorem v_and15 (n k : Nat) (hk : k ≤ 30) : j_and (w32 (n : Int)) ((2 ^ k - 1 : Nat) : Int) = ((n % 2 ^ k : Nat) : Int) := by
  have h : n % 2 ^ k < 2 ^ 30 := Nat.lt_of_lt_of_le (Nat.mod_lt _ (Nat.two_pow_pos k)) (Nat.pow_le_pow_right (by decide) hk)
  unfold j_and
  rw [w32_i, n_oi, n_oi, nx_and, Nat.and_two_pow_sub_one_eq_mod, ← n_oi]
  exact j_t32 ⟨by omega, by omega⟩
theorem v_bit {v i : Nat} (hv : v < 2 ^ 31) (hi : i < 32) : j_and (j_shr (v : Int) (i : Int)) 1 = ((v / 2 ^ i % 2 : Nat) : Int) := by
  have h : v / 2 ^ i ≤ v := Nat.div_le_self _ _
  rw [n_shr hv hi]
  generalize v / 2 ^ i = q at *
  rw [show (1 : Int) = ((2 ^ 1 - 1 : Nat) : Int) from rfl, i_and (by omega) (by omega) 1 rfl]
  omega
theorem f_putBit {b n : Nat} (hb : b < 2) (hn : n < 256) (c : JM) (h : c.1 10 0 1 = (n : Int)) : F10_putBit (b : Int) c = some (sI (sI c 36 0 (n : Int) (b : Int)) 10 0 1 ((n + 1 : Nat) : Int)) := by
  unfold F10_putBit
  have e : j_i2b (b : Int) = (b : Int) := i2b_of (by omega) (by omega)
  rw [if_neg (by omega), g_t (by omega), lt_d, lt_d, e, e, rI_o (by omega), h, w32_of (by omega) (by omega)]
  rfl
theorem f_step {r b : Nat} (hr : r < 65536) (hb : b < 2) (c : JM) : F10_stepCheck (r : Int) (b : Int) c = some ((cst r b : Int), c) := by
  unfold F10_stepCheck cst
  have hx : r ^^^ b < 2 ^ 16 := Nat.xor_lt_two_pow (by omega) (by omega)
  have e2 : (r ^^^ b) % 2 = (r + b) % 2 := by have h := Nat.xor_mod_two_eq_one (a := r) (b := b); omega
  rw [n_xor (by omega) (by omega), show (1 : Int) = ((2 ^ 1 - 1 : Nat) : Int) from rfl, i_and (by omega) (by omega) 1 rfl]
  have e3 : (((r ^^^ b : Nat) : Int) % ((2 ^ 1 : Nat) : Int)) = (((r + b) % 2 : Nat) : Int) := by rw [← e2]; omega
  rw [e3, show ((2 ^ 1 - 1 : Nat) : Int) = ((1 : Nat) : Int) from rfl, n_shr (by omega) (by decide), show (33800 : Int) = ((33800 : Nat) : Int) from rfl, n_xor (by omega) (by decide)]
  by_cases z : (r + b) % 2 = 1
  · rw [if_pos (by rw [z]), if_pos z]
  · rw [if_neg (by omega), if_neg z]
def w_wr (k : Nat) (j : Int) : Bool := k == 36 || (k == 10 && (j == 1 || j == 2 || j == 3))
/-- the wire holds a flag and the bits of l -/
def wst (c : JM) (l : List Nat) : Prop := ar (c.1 36 0) (flg ++ stf 0 l) ∧ c.1 10 0 1 = ((flg ++ stf 0 l).length : Int) ∧ c.1 10 0 2 = (onn 0 l : Int) ∧ c.1 10 0 3 = (crc l : Int)
set_option maxRecDepth 100000 in
theorem f_put2 {v w : Nat} (hv : v < 2 ^ 31) (hw : w ≤ 31) : ∀ (d fu i : Nat) (c : JM) (l : List Nat), i + d = w → d < fu → wst c l → l.length + d ≤ 190 →
    ∃ c', F10_put_2 fu (v : Int) (w : Int) (i : Int) c = some c' ∧ wst c' (l ++ bt (v / 2 ^ i) d) ∧ so w_wr c c'
  | _, 0, _, _, _, _, q, _, _ => by omega
  | 0, fu + 1, i, c, l, e, _, W, _ => by
    refine ⟨c, ?_, by simpa [bt] using W, so_rfl c⟩
    show F10_put_2b (F10_put_2 fu) _ _ _ c = _
    unfold F10_put_2b
    rw [if_pos (by omega)]
  | d + 1, fu + 1, i, c, l, e, q, W, hl => by
    obtain ⟨W1, W2, W3, W4⟩ := W
    have hlen := stf_len l 0 (by omega)
    have hon := onn_le l 0 (by omega)
    have e8 : (flg ++ stf 0 l).length = 8 + (stf 0 l).length := by rw [List.length_append]; rfl
    have hn : (flg ++ stf 0 l).length + 2 ≤ 256 := by omega
    generalize hN : (flg ++ stf 0 l).length = n at *
    have hi : i < 32 := by omega
    have vb := v_bit (v := v) (i := i) hv hi
    have hb : v / 2 ^ i % 2 < 2 := Nat.mod_lt _ (by decide)
    have ebt : l ++ bt (v / 2 ^ i) (d + 1) = (l ++ [v / 2 ^ i % 2]) ++ bt (v / 2 ^ (i + 1)) d := by
      rw [List.append_assoc, Nat.pow_succ, ← Nat.div_div_eq_div_mul]; rfl
    have wi : w32 ((i : Int) + 1) = ((i + 1 : Nat) : Int) := by rw [w32_of (by omega) (by omega)]; omega
    generalize v / 2 ^ i % 2 = b at vb hb ebt
    have hcrc := crc_lt l
    have ecrc : crc (l ++ [b]) = cst (crc l) b := by rw [crc_app]; rfl
    have es : flg ++ stf 0 (l ++ [b]) = (flg ++ stf 0 l) ++ stf (onn 0 l) [b] := by rw [stf_app, List.append_assoc]
    have eo : onn 0 (l ++ [b]) = onn (onn 0 l) [b] := onn_app l [b] 0
    have st1 : F10_put_2 (fu + 1) (v : Int) (w : Int) (i : Int) c = if (b : Int) = 1 then F10_put_50 (F10_put_2 fu) (v : Int) (w : Int) (i : Int) (some 0) (w32 ((onn 0 l : Int) + 1)) (sI (sI (sI c 36 0 (n : Int) (b : Int)) 10 0 1 ((n + 1 : Nat) : Int)) 10 0 3 (cst (crc l) b : Int)) else F10_put_50 (F10_put_2 fu) (v : Int) (w : Int) (i : Int) (some 0) 0 (sI (sI (sI c 36 0 (n : Int) (b : Int)) 10 0 1 ((n + 1 : Nat) : Int)) 10 0 3 (cst (crc l) b : Int)) := by
      show F10_put_2b (F10_put_2 fu) _ _ _ c = _
      unfold F10_put_2b
      rw [if_neg (by omega), lt_d, vb, f_putBit hb (by omega) c W2, Option.bind_some, rI_o (by omega), rI_o (by omega), W4, f_step hcrc hb, Option.bind_some, lt_d]
      dsimp only
      rw [rI_o (by omega), rI_o (by omega), rI_o (by omega), W3]
    have arr : ∀ (c1 : JM), (∀ j : Nat, j < n → c1.1 36 0 j = c.1 36 0 j) → ar (c1.1 36 0) (flg ++ stf 0 l) := fun c1 h => ar_cg W1 (fun j hj => h j (by rw [hN] at hj; exact hj))
    by_cases z : b = 1
    · rw [st1, if_pos (by omega)]
      unfold F10_put_50
      rw [Option.bind_some, g_t rfl, lt_d, rI_s, w32_of (by omega) (by omega)]
      by_cases y : onn 0 l = 4
      · rw [if_pos (by omega)]
        obtain ⟨c1, hc1⟩ : ∃ x, x = sI (sI (sI (sI c 36 0 (n : Int) (b : Int)) 10 0 1 ((n + 1 : Nat) : Int)) 10 0 3 (cst (crc l) b : Int)) 10 0 2 ((onn 0 l : Int) + 1) := ⟨_, rfl⟩
        have p0 := f_putBit (b := 0) (n := n + 1) (by omega) (by omega) c1 (by rw [hc1, rI_o (by omega), rI_o (by omega), rI_s])
        rw [← hc1, show (0 : Int) = ((0 : Nat) : Int) from rfl, p0, Option.bind_some, lt_d]
        unfold F10_put_71
        rw [wi]
        have hso : so w_wr c (sI (sI (sI c1 36 0 ((n + 1 : Nat) : Int) ((0 : Nat) : Int)) 10 0 1 ((n + 1 + 1 : Nat) : Int)) 10 0 2 ((0 : Nat) : Int)) := by
          rw [hc1]; exact so_I (so_I (so_I (so_I (so_I (so_I (so_I (so_rfl c) rfl _ _) rfl _ _) rfl _ _) rfl _ _) rfl _ _) rfl _ _) rfl _ _
        have e2 : stf (onn 0 l) [b] = [1] ++ [0] := by rw [y, z]; rfl
        obtain ⟨c', x1, x2, x3⟩ := f_put2 hv hw d fu (i + 1) (sI (sI (sI c1 36 0 ((n + 1 : Nat) : Int) ((0 : Nat) : Int)) 10 0 1 ((n + 1 + 1 : Nat) : Int)) 10 0 2 ((0 : Nat) : Int)) (l ++ [b]) (by omega) (by omega) (by
          refine ⟨?_, ?_, ?_, ?_⟩
          · rw [es, e2, ← List.append_assoc]
            refine ar_snoc (ar_snoc (arr _ (fun j hj => ?_)) ?_) ?_
            · rw [rI_o (by omega), rI_o (by omega), rI_o (by omega), hc1, rI_o (by omega), rI_o (by omega), rI_o (by omega), rI_o (by omega)]
            · rw [hN, rI_o (by omega), rI_o (by omega), rI_o (by omega), hc1, rI_o (by omega), rI_o (by omega), rI_o (by omega), rI_s, z]
            · rw [List.length_append, hN, rI_o (by omega), rI_o (by omega)]
              exact rI_s _ _ _ _ _
          · rw [es, List.length_append, hN, e2, rI_o (by omega), rI_s]; rfl
          · rw [eo, y, z, rI_s]; rfl
          · rw [ecrc, rI_o (by omega), rI_o (by omega), rI_o (by omega), hc1, rI_o (by omega), rI_s]) (by rw [List.length_append]; simp; omega)
        exact ⟨c', x1, by rw [ebt]; exact x2, so_tr hso x3⟩
      · rw [if_neg (by omega)]
        unfold F10_put_71
        rw [wi]
        have e2 : stf (onn 0 l) [b] = [1] := by rw [z]; simp [stf, y]
        have hso : so w_wr c (sI (sI (sI (sI c 36 0 (n : Int) (b : Int)) 10 0 1 ((n + 1 : Nat) : Int)) 10 0 3 (cst (crc l) b : Int)) 10 0 2 ((onn 0 l : Int) + 1)) := so_I (so_I (so_I (so_I (so_rfl c) rfl _ _) rfl _ _) rfl _ _) rfl _ _
        obtain ⟨c', x1, x2, x3⟩ := f_put2 hv hw d fu (i + 1) (sI (sI (sI (sI c 36 0 (n : Int) (b : Int)) 10 0 1 ((n + 1 : Nat) : Int)) 10 0 3 (cst (crc l) b : Int)) 10 0 2 ((onn 0 l : Int) + 1)) (l ++ [b]) (by omega) (by omega) (by
          refine ⟨?_, ?_, ?_, ?_⟩
          · rw [es, e2]
            refine ar_snoc (arr _ (fun j hj => ?_)) ?_
            · rw [rI_o (by omega), rI_o (by omega), rI_o (by omega), rI_o (by omega)]
            · rw [hN, rI_o (by omega), rI_o (by omega), rI_o (by omega), rI_s, z]
          · rw [es, List.length_append, hN, e2, rI_o (by omega), rI_o (by omega), rI_s]; rfl
          · rw [eo, z, rI_s]; simp [onn, y]
          · rw [ecrc, rI_o (by omega), rI_s]) (by rw [List.length_append]; simp; omega)
        exact ⟨c', x1, by rw [ebt]; exact x2, so_tr hso x3⟩
    · rw [st1, if_neg (by omega)]
      have b0 : b = 0 := by omega
      unfold F10_put_50
      rw [Option.bind_some, g_t rfl, lt_d, rI_s, if_neg (by decide)]
      unfold F10_put_71
      rw [wi]
      have e2 : stf (onn 0 l) [b] = [0] := by rw [b0]; simp [stf]
      have hso : so w_wr c (sI (sI (sI (sI c 36 0 (n : Int) (b : Int)) 10 0 1 ((n + 1 : Nat) : Int)) 10 0 3 (cst (crc l) b : Int)) 10 0 2 0) := so_I (so_I (so_I (so_I (so_rfl c) rfl _ _) rfl _ _) rfl _ _) rfl _ _
      obtain ⟨c', x1, x2, x3⟩ := f_put2 hv hw d fu (i + 1) (sI (sI (sI (sI c 36 0 (n : Int) (b : Int)) 10 0 1 ((n + 1 : Nat) : Int)) 10 0 3 (cst (crc l) b : Int)) 10 0 2 0) (l ++ [b]) (by omega) (by omega) (by
        refine ⟨?_, ?_, ?_, ?_⟩
        · rw [es, e2]
          refine ar_snoc (arr _ (fun j hj => ?_)) ?_
          · rw [rI_o (by omega), rI_o (by omega), rI_o (by omega), rI_o (by omega)]
          · rw [hN, rI_o (by omega), rI_o (by omega), rI_o (by omega), rI_s, b0]
        · rw [es, List.length_append, hN, e2, rI_o (by omega), rI_o (by omega), rI_s]; rfl
        · rw [eo, b0, rI_s]; simp [onn]
        · rw [ecrc, rI_o (by omega), rI_s]) (by rw [List.length_append]; simp; omega)
      exact ⟨c', x1, by rw [ebt]; exact x2, so_tr hso x3⟩
theorem f_put {v w : Nat} (hv : v < 2 ^ 31) (hw : w ≤ 31) {c : JM} {l : List Nat} (W : wst c l) (hl : l.length + w ≤ 190) : ∃ c', F10_put (v : Int) (w : Int) c = some c' ∧ wst c' (l ++ bt v w) ∧ so w_wr c c' := by
  obtain ⟨c', x1, x2, x3⟩ := f_put2 hv hw w j_fu 0 c l (by omega) (by unfold j_fu; omega) W hl
  exact ⟨c', x1, by simpa using x2, x3⟩
def w_fl (k : Nat) (j : Int) : Bool := k == 36 || (k == 10 && j == 1)
theorem f_flag2 : ∀ (d fu i : Nat) (c : JM) (P : List Nat), i + d = 8 → d < fu → ar (c.1 36 0) P → c.1 10 0 1 = (P.length : Int) → P.length + d ≤ 256 →
    ∃ c', F10_putFlag_2 fu (i : Int) c = some c' ∧ ar (c'.1 36 0) (P ++ flg.drop i) ∧ c'.1 10 0 1 = ((P ++ flg.drop i).length : Int) ∧ so w_fl c c'
  | _, 0, _, _, _, _, q, _, _, _ => by omega
  | 0, fu + 1, i, c, P, e, _, h1, h2, _ => by
    have : i = 8 := by omega
    subst this
    refine ⟨c, ?_, by simpa [flg] using h1, by simpa [flg] using h2, so_rfl c⟩
    show F10_putFlag_2b (F10_putFlag_2 fu) _ c = _
    unfold F10_putFlag_2b
    rw [if_pos (by omega)]
  | d + 1, fu + 1, i, c, P, e, q, h1, h2, h3 => by
    obtain ⟨b, hb, e1, e2⟩ : ∃ b, b < 2 ∧ flg.drop i = b :: flg.drop (i + 1) ∧ (b : Int) = if i = 0 ∨ i = 7 then 0 else 1 := by
      have : i = 0 ∨ i = 1 ∨ i = 2 ∨ i = 3 ∨ i = 4 ∨ i = 5 ∨ i = 6 ∨ i = 7 := by omega
      rcases this with rfl | rfl | rfl | rfl | rfl | rfl | rfl | rfl
      · exact ⟨0, by omega, rfl, by simp⟩
      · exact ⟨1, by omega, rfl, by simp⟩
      · exact ⟨1, by omega, rfl, by simp⟩
      · exact ⟨1, by omega, rfl, by simp⟩
      · exact ⟨1, by omega, rfl, by simp⟩
      · exact ⟨1, by omega, rfl, by simp⟩
      · exact ⟨1, by omega, rfl, by simp⟩
      · exact ⟨0, by omega, rfl, by simp⟩
    have p := f_putBit hb (n := P.length) (by omega) c h2
    obtain ⟨c', x1, x2, x3, x4⟩ := f_flag2 d fu (i + 1) (sI (sI c 36 0 (P.length : Int) (b : Int)) 10 0 1 ((P.length + 1 : Nat) : Int)) (P ++ [b]) (by omega) (by omega) (by
      refine ar_snoc (ar_cg h1 (fun j hj => ?_)) ?_
      · rw [rI_o (by omega), rI_o (by omega)]
      · rw [rI_o (by omega), rI_s]) (by rw [rI_s]; simp) (by simp; omega)
    refine ⟨c', ?_, by rw [e1, show P ++ b :: flg.drop (i + 1) = P ++ [b] ++ flg.drop (i + 1) by simp]; exact x2, by rw [e1, show P ++ b :: flg.drop (i + 1) = P ++ [b] ++ flg.drop (i + 1) by simp]; exact x3, so_tr (so_I (so_I (so_rfl c) rfl _ _) rfl _ _) x4⟩
    have wi : w32 ((i : Int) + 1) = ((i + 1 : Nat) : Int) := by rw [w32_of (by omega) (by omega)]; omega
    show F10_putFlag_2b (F10_putFlag_2 fu) _ c = _
    unfold F10_putFlag_2b F10_putFlag_19 F10_putFlag_24
    rw [if_neg (by omega)]
    simp only [Option.bind_some, g_t]
    rw [wi]
    by_cases z0 : i = 0
    · rw [if_pos (by omega), show (0 : Int) = (b : Int) by rw [e2, if_pos (Or.inl z0)], p, Option.bind_some, x1]
    · by_cases z7 : i = 7
      · rw [if_neg (by omega), if_pos (by omega), show (0 : Int) = (b : Int) by rw [e2, if_pos (Or.inr z7)], p, Option.bind_some, x1]
      · rw [if_neg (by omega), if_neg (by omega), show (1 : Int) = (b : Int) by rw [e2, if_neg (by omega)], p, Option.bind_some, x1]
