/-! ===== the class writes a whole unit ===== -/
/-- a message, or none -/
def mo (L : List Nat) (x : Int) : Prop := (L = [] ∧ x = -1) ∨ mg L x
theorem mo_len {L : List Nat} {x : Int} (h : mo L x) : L.length ≤ 16 := by
  rcases h with ⟨rfl, _⟩ | h
  · simp
  · exact (mg_len h).2
theorem mg_nn {L : List Nat} {x : Int} (h : mg L x) : 0 < x := by
  rcases h with ⟨k, ty, h1, h2, _, rfl⟩ | ⟨k, a, _, _, _, rfl⟩ | ⟨k, w, K, _, _, _, _, rfl⟩
  · have : 0 < ty * 2 ^ 59 := Nat.mul_pos (by omega) (by decide)
    omega
  · omega
  · omega
theorem mg_size {L : List Nat} {x : Int} (h : mg L x) (c : JM) : F9_sizeOf x c = some ((L.length : Int), c) := by
  have h0 := mg_nn h
  unfold F9_sizeOf
  rw [if_neg (by rw [lc_eq]; omega)]
  rcases h with ⟨k, ty, h1, h2, rfl, rfl⟩ | ⟨k, a, h1, h2, rfl, rfl⟩ | ⟨k, w, K, h1, h2, h3, rfl, rfl⟩
  · have e : ty * 2 ^ 59 + k * 2 ^ 55 = ty * 2 ^ 59 + k * 2 ^ 55 + 0 := (Nat.add_zero _).symm
    rw [e, v_type (by omega) h1 (by decide), Option.bind_some]
    dsimp only
    rw [if_neg (by omega), if_neg (by omega)]
    rfl
  · rw [v_type (by decide) h1 (by omega), Option.bind_some]
    dsimp only
    rw [if_neg (by omega), if_pos (by omega)]
    rfl
  · have hP := k_P_lt h3
    have e : 2 ^ 59 + k * 2 ^ 55 + w * 2 ^ 52 + k_P K = 1 * 2 ^ 59 + k * 2 ^ 55 + (w * 2 ^ 52 + k_P K) := by omega
    have e2 : 2 ^ 59 + k * 2 ^ 55 + w * 2 ^ 52 + k_P K = 1 * 2 ^ 59 + k * 2 ^ 55 + w * 2 ^ 52 + k_P K := by omega
    have t : ∀ c : JM, F9_typeOf ((2 ^ 59 + k * 2 ^ 55 + w * 2 ^ 52 + k_P K : Nat) : Int) c = some (((1 : Nat) : Int), c) := fun c => by rw [e]; exact v_type (by decide) h1 (by omega) c
    have ks : ∀ c : JM, F9_keysOf ((2 ^ 59 + k * 2 ^ 55 + w * 2 ^ 52 + k_P K : Nat) : Int) c = some ((k_P K : Int), c) := fun c => by rw [e2]; exact v_keys (by decide) h1 (by omega) hP c
    rw [t, Option.bind_some]
    dsimp only
    rw [if_pos (by omega), ks, Option.bind_some]
    dsimp only
    have := h3.1
    rw [f_countOf h3, Option.bind_some]
    dsimp only
    rw [w32_of (by omega) (by omega)]
    congr 2
    simp only [List.length_cons]
    omega
theorem k_nth {K : List Nat} (hK : ∀ k ∈ K, k < 12) {a : Nat} (ha : a < K.length) : k_pk K / 16 ^ a % 16 = K.getD a 0 := by
  rw [k_drop a hK, List.drop_eq_getElem_cons ha]
  show (K[a] + 16 * k_pk (K.drop (a + 1))) % 16 = _
  have := hK K[a] (List.getElem_mem ha)
  rw [List.getD_eq_getElem?_getD, List.getElem?_eq_getElem ha]
  simp only [Option.getD_some]
  omega
theorem mg_byte {L : List Nat} {x : Int} (h : mg L x) {i : Nat} (hi : i < L.length) (c : JM) : F9_byteOf x (i : Int) c = some ((L.getD i 0 : Int), c) ∧ L.getD i 0 < 256 := by
  rcases h with ⟨k, ty, h1, h2, rfl, rfl⟩ | ⟨k, a, h1, h2, rfl, rfl⟩ | ⟨k, w, K, h1, h2, h3, rfl, rfl⟩
  · have e : ty * 2 ^ 59 + k * 2 ^ 55 = ty * 2 ^ 59 + k * 2 ^ 55 + 0 := (Nat.add_zero _).symm
    have : i = 0 ∨ i = 1 := by simp at hi; omega
    unfold F9_byteOf
    rw [e]
    rcases this with rfl | rfl
    · rw [if_pos (by decide), v_circ (by omega) h1 (by decide), Option.bind_some]
      exact ⟨rfl, by simp; omega⟩
    · rw [if_neg (by decide), if_pos (by decide), v_type (by omega) h1 (by decide), Option.bind_some]
      exact ⟨rfl, by simp; omega⟩
  · have : i = 0 ∨ i = 1 ∨ i = 2 := by simp at hi; omega
    unfold F9_byteOf
    rcases this with rfl | rfl | rfl
    · rw [if_pos (by decide), v_circ (by decide) h1 (by omega), Option.bind_some]
      exact ⟨rfl, by simp; omega⟩
    · rw [if_neg (by decide), if_pos (by decide), v_type (by decide) h1 (by omega), Option.bind_some]
      exact ⟨rfl, by simp⟩
    · rw [if_neg (by decide), if_neg (by decide), if_pos (by decide), v_type (by decide) h1 (by omega), Option.bind_some]
      dsimp only
      rw [if_pos (by omega), v_cause h1 h2, Option.bind_some]
      exact ⟨rfl, by simp; omega⟩
  · have hP := k_P_lt h3
    have hk12 := h3.1
    have e : 2 ^ 59 + k * 2 ^ 55 + w * 2 ^ 52 + k_P K = 1 * 2 ^ 59 + k * 2 ^ 55 + (w * 2 ^ 52 + k_P K) := by omega
    have e2 : 2 ^ 59 + k * 2 ^ 55 + w * 2 ^ 52 + k_P K = 1 * 2 ^ 59 + k * 2 ^ 55 + w * 2 ^ 52 + k_P K := by omega
    have t : ∀ c : JM, F9_typeOf ((2 ^ 59 + k * 2 ^ 55 + w * 2 ^ 52 + k_P K : Nat) : Int) c = some (((1 : Nat) : Int), c) := fun c => by rw [e]; exact v_type (by decide) h1 (by omega) c
    have ks : ∀ c : JM, F9_keysOf ((2 ^ 59 + k * 2 ^ 55 + w * 2 ^ 52 + k_P K : Nat) : Int) c = some ((k_P K : Int), c) := fun c => by rw [e2]; exact v_keys (by decide) h1 (by omega) hP c
    unfold F9_byteOf
    by_cases z0 : i = 0
    · subst z0
      rw [if_pos (by decide), e, v_circ (by decide) h1 (by omega), Option.bind_some]
      exact ⟨rfl, by simp; omega⟩
    · by_cases z1 : i = 1
      · subst z1
        rw [if_neg (by decide), if_pos (by decide), t, Option.bind_some]
        exact ⟨rfl, by simp⟩
      · by_cases z2 : i = 2
        · subst z2
          rw [if_neg (by decide), if_neg (by decide), if_pos (by decide), t, Option.bind_some]
          dsimp only
          rw [if_neg (by omega), e2, v_forw (by decide) h1 (by omega) hP, Option.bind_some]
          exact ⟨rfl, by simp; omega⟩
        · by_cases z3 : i = 3
          · subst z3
            rw [if_neg (by decide), if_neg (by decide), if_neg (by decide), if_pos (by decide), ks, Option.bind_some]
            dsimp only
            rw [f_countOf h3, Option.bind_some]
            exact ⟨rfl, by simp; omega⟩
          · obtain ⟨a, rfl⟩ : ∃ a, i = a + 4 := ⟨i - 4, by omega⟩
            have ha : a < K.length := by simp at hi; omega
            have g : (k :: 1 :: w :: K.length :: K).getD (a + 4) 0 = K.getD a 0 := rfl
            have hlt : K.getD a 0 < 12 := by
              rw [List.getD_eq_getElem?_getD, List.getElem?_eq_getElem ha]
              exact h3.2 _ (List.getElem_mem ha)
            have e4 : w32 (4 * w32 (((a + 4 : Nat) : Int) - 4)) = ((4 * a : Nat) : Int) := by rw [w32_of (x := ((a + 4 : Nat) : Int) - 4) (by omega) (by omega), w32_of (by omega) (by omega)]; omega
            rw [if_neg (by omega), if_neg (by omega), if_neg (by omega), if_neg (by omega), g, e4, n_lshr (by omega) (by omega), show (15 : Int) = ((2 ^ 4 - 1 : Nat) : Int) from rfl, v_and15 _ 4 (by decide)]
            refine ⟨?_, by omega⟩
            have key : (2 ^ 59 + k * 2 ^ 55 + w * 2 ^ 52 + k_P K) / 2 ^ (4 * a) % 2 ^ 4 = K.getD a 0 := by
              rw [← k_nth h3.2 ha]
              have hp : 2 ^ 48 = 2 ^ (4 * a) * (16 * 2 ^ (44 - 4 * a)) := by
                rw [show (16 : Nat) = 2 ^ 4 from rfl, ← Nat.pow_add, ← Nat.pow_add]; congr 1; omega
              have hx : 2 ^ 59 + k * 2 ^ 55 + w * 2 ^ 52 + k_P K = k_pk K + 2 ^ (4 * a) * (16 * (2 ^ (44 - 4 * a) * (2 ^ 11 + k * 2 ^ 7 + w * 2 ^ 4 + K.length))) := by
                have : 2 ^ (4 * a) * (16 * (2 ^ (44 - 4 * a) * (2 ^ 11 + k * 2 ^ 7 + w * 2 ^ 4 + K.length))) = 2 ^ 48 * (2 ^ 11 + k * 2 ^ 7 + w * 2 ^ 4 + K.length) := by
                  rw [hp, Nat.mul_assoc, Nat.mul_assoc]
                rw [this]
                unfold k_P
                omega
              rw [hx, Nat.add_mul_div_left _ _ (Nat.two_pow_pos _), k16]
              show (_ + 16 * _) % 16 = _
              rw [Nat.add_mul_mod_self_left]
            rw [key]
theorem f_wr81 {u : Int} {L : List Nat} {x : Int} (hx : mg L x) : ∀ (d fu i : Nat) (c : JM) (l : List Nat), i + d = L.length → d < fu → wst c l → l.length + 8 * d ≤ 174 → c.2.1 9 u 4 = x →
    ∃ c', F10_write_81 fu (some u) (L.length : Int) (i : Int) c = F10_write_81b (fun _ _ _ _ => none) (some u) (L.length : Int) (L.length : Int) c' ∧ wst c' (l ++ (L.drop i).flatMap (fun b => bt b 8)) ∧ so w_wr c c'
  | _, 0, _, _, _, _, q, _, _, _ => by omega
  | 0, fu + 1, i, c, l, e, _, W, _, h4 => by
    refine ⟨c, ?_, ?_, so_rfl c⟩
    · show F10_write_81b (F10_write_81 fu) _ _ _ c = _
      rw [show i = L.length by omega]
      unfold F10_write_81b
      rw [if_pos (by omega), if_pos (by omega)]
    · rw [List.drop_of_length_le (by omega)]; simpa using W
  | d + 1, fu + 1, i, c, l, e, q, W, hl, h4 => by
    obtain ⟨b1, b2⟩ := mg_byte hx (i := i) (by omega) c
    obtain ⟨c1, p1, p2, p3⟩ := f_put (v := L.getD i 0) (w := 8) (by omega) (by decide) W (by omega)
    obtain ⟨c', x1, x2, x3⟩ := f_wr81 hx d fu (i + 1) c1 (l ++ bt (L.getD i 0) 8) (by omega) (by omega) p2 (by rw [List.length_append, bt_len]; omega) (by rw [(p3 9 u 4 rfl).2.1]; exact h4)
    refine ⟨c', ?_, ?_, so_tr p3 x3⟩
    · show F10_write_81b (F10_write_81 fu) _ _ _ c = _
      rw [← x1]
      conv => lhs; unfold F10_write_81b
      have wi : w32 ((i : Int) + 1) = ((i + 1 : Nat) : Int) := by rw [w32_of (by have := mg_len hx; omega) (by have := mg_len hx; omega)]; omega
      rw [if_neg (by omega), Option.bind_some, h4, b1, Option.bind_some, show (8 : Int) = ((8 : Nat) : Int) from rfl, p1, Option.bind_some, wi]
    · rw [List.drop_eq_getElem_cons (by omega), List.flatMap_cons, ← List.append_assoc]
      have : L[i]'(by omega) = L.getD i 0 := by
        rw [List.getD_eq_getElem?_getD, List.getElem?_eq_getElem (by omega)]; rfl
      rw [this]
      exact x2
theorem f_wunit {u : Int} {a b d e : Nat} {L : List Nat} {c : JM} (ha : a < 128) (hb : b < 2) (hd : d < 128) (he : e < 2) (h0 : c.1 9 u 0 = (a : Int)) (h1 : c.1 9 u 1 = (b : Int)) (h2 : c.1 9 u 2 = (d : Int)) (h3 : c.1 9 u 3 = (e : Int)) (hx : mo L (c.2.1 9 u 4)) :
    ∃ c', F10_write (some u) c = some c' ∧ ar (c'.1 36 0) (enc (ful a b d e L)) ∧ c'.1 10 0 1 = ((enc (ful a b d e L)).length : Int) ∧ so w_wr c c' := by
  have hL := mo_len hx
  obtain ⟨c1, y1, y2, y3, y4⟩ := f_flag2 8 j_fu 0 (sI c 10 0 1 0) [] (by omega) (by unfold j_fu; omega) (ar_nil _) (by rw [rI_s]; rfl) (by simp)
  have W0 : wst (sI (sI c1 10 0 2 0) 10 0 3 65535) [] := by
    refine ⟨?_, ?_, ?_, ?_⟩
    · refine ar_cg (by simpa [stf] using y2) (fun j hj => ?_)
      rw [rI_o (by omega), rI_o (by omega)]
    · rw [rI_o (by omega), rI_o (by omega), y3]; rfl
    · rw [rI_o (by omega), rI_s]; rfl
    · rw [rI_s]; rfl
  have s0 : so w_wr c (sI (sI c1 10 0 2 0) 10 0 3 65535) := so_I (so_I (so_tr (so_I (so_rfl c) rfl _ _) (so_mono (fun k j q => by simp [w_wr] at q; simp [w_fl]; omega) y4)) rfl _ _) rfl _ _
  generalize hC : sI (sI c1 10 0 2 0) 10 0 3 65535 = c2 at *
  obtain ⟨c3, p1, q1, r1⟩ := f_put (v := a) (w := 7) (by omega) (by decide) W0 (by simp)
  have s1 := so_tr s0 r1
  obtain ⟨c4, p2, q2, r2⟩ := f_put (v := b) (w := 1) (by omega) (by decide) q1 (by simp [bt_len])
  have s2 := so_tr s1 r2
  obtain ⟨c5, p3, q3, r3⟩ := f_put (v := d) (w := 7) (by omega) (by decide) q2 (by simp [bt_len])
  have s3 := so_tr s2 r3
  obtain ⟨c6, p4, q4, r4⟩ := f_put (v := e) (w := 1) (by omega) (by decide) q3 (by simp [bt_len])
  have s4 := so_tr s3 r4
  obtain ⟨c7, p5, q5, r5⟩ := f_put (v := L.length) (w := 6) (by omega) (by decide) q4 (by simp [bt_len])
  have s5 := so_tr s4 r5
  obtain ⟨c8, p6, q6, r6⟩ := f_put (v := 0) (w := 2) (by omega) (by decide) q5 (by simp [bt_len])
  have s6 := so_tr s5 r6
  have e8 : [] ++ bt a 7 ++ bt b 1 ++ bt d 7 ++ bt e 1 ++ bt L.length 6 ++ bt 0 2 = bt a 7 ++ bt b 1 ++ bt d 7 ++ bt e 1 ++ bt L.length 8 := by
    rw [show bt L.length 8 = bt L.length 6 ++ bt (L.length / 2 ^ 6) 2 from bt_app 6 2 L.length, Nat.div_eq_of_lt (by omega)]
    simp only [List.append_assoc, List.nil_append]
  rw [e8] at q6
  have sz : ∀ c : JM, F9_sizeOf (c.2.1 9 u 4) c = F9_sizeOf (c.2.1 9 u 4) c := fun _ => rfl
  -- the bytes
  have key : ∃ c9, F10_write_81 j_fu (some u) (L.length : Int) 0 c8 = F10_write_81b (fun _ _ _ _ => none) (some u) (L.length : Int) (L.length : Int) c9 ∧ wst c9 (bdy a b d e L) ∧ so w_wr c8 c9 ∧ F9_sizeOf (c6.2.1 9 u 4) c6 = some ((L.length : Int), c6) := by
    have x6 : c6.2.1 9 u 4 = c.2.1 9 u 4 := (s4 9 u 4 rfl).2.1
    have x8 : c8.2.1 9 u 4 = c.2.1 9 u 4 := (s6 9 u 4 rfl).2.1
    rcases hx with ⟨rfl, hx⟩ | hx
    · refine ⟨c8, ?_, by simpa [bdy] using q6, so_rfl c8, ?_⟩
      · show F10_write_81b (F10_write_81 99999) _ _ _ c8 = _
        unfold F10_write_81b
        rw [if_pos (by decide), if_pos (by decide)]
      · rw [x6, hx]; rfl
    · obtain ⟨c9, z1, z2, z3⟩ := f_wr81 (u := u) hx L.length j_fu 0 c8 _ (by omega) (by unfold j_fu; omega) q6 (by simp [bt_len]; omega) x8
      exact ⟨c9, z1, by simpa [bdy] using z2, z3, by rw [x6]; exact mg_size hx c6⟩
  obtain ⟨c9, z1, z2, z3, z4⟩ := key
  have s9 := so_tr s6 z3
  have hcrc := crc_lt (bdy a b d e L)
  obtain ⟨c10, p7, q7, r7⟩ := f_put (v := 65535 - crc (bdy a b d e L)) (w := 16) (by omega) (by decide) z2 (by rw [bdy_len]; omega)
  have q7' : wst c10 (ful a b d e L) := q7
  have hlen := enc_len a b d e L hL
  have elen : (enc (ful a b d e L)).length = (flg ++ stf 0 (ful a b d e L)).length + 8 := by unfold enc; rw [List.length_append]; rfl
  obtain ⟨c11, p8, q8, q9, r8⟩ := f_flag2 8 j_fu 0 c10 (flg ++ stf 0 (ful a b d e L)) (by omega) (by unfold j_fu; omega) q7'.1 q7'.2.1 (by omega)
  refine ⟨c11, ?_, q8, q9, so_tr (so_tr s9 r7) (so_mono (fun k j q => by simp [w_wr] at q; simp [w_fl]; omega) r8)⟩
  unfold F10_write
  rw [lt_d]
  have y1' : F10_putFlag (sI c 10 0 1 0) = some c1 := y1
  have p8' : F10_putFlag c10 = some c11 := p8
  rw [y1', Option.bind_some, lt_d, lt_d, hC, Option.bind_some, (s0 9 u 0 rfl).1, h0, show (7 : Int) = ((7 : Nat) : Int) from rfl, p1, Option.bind_some, (s1 9 u 1 rfl).1, h1, show (1 : Int) = ((1 : Nat) : Int) from rfl, p2, Option.bind_some, (s2 9 u 2 rfl).1, h2, p3, Option.bind_some, (s3 9 u 3 rfl).1, h3, p4, Option.bind_some, z4, Option.bind_some]
  dsimp only
  rw [show (6 : Int) = ((6 : Nat) : Int) from rfl, p5, Option.bind_some, show (0 : Int) = ((0 : Nat) : Int) from rfl, show (2 : Int) = ((2 : Nat) : Int) from rfl, p6, Option.bind_some, show ((0 : Nat) : Int) = 0 from rfl, z1]
  unfold F10_write_81b
  rw [if_pos (by omega), z2.2.2.2, w32_of (by omega) (by omega), show (65535 : Int) - (crc (bdy a b d e L) : Int) = ((65535 - crc (bdy a b d e L) : Nat) : Int) by omega, show (16 : Int) = ((16 : Nat) : Int) from rfl, p7, Option.bind_some, p8', Option.bind_some]
