/-! ===== the class reads a whole unit ===== -/
theorem wb_9 {c : JM} {l : List Nat} (h : wb c l) (u j v : Int) : wb (sI c 9 u j v) l := ⟨ar_cg h.1 (fun q _ => rI_o (by omega)), by rw [rI_o (by omega)]; exact h.2.1, h.2.2.1, h.2.2.2⟩
theorem take_succ' {l : List Nat} {i : Nat} (h : i < l.length) : l.take (i + 1) = l.take i ++ [l.getD i 0] := by
  rw [List.take_succ_eq_append_getElem h, List.getD_eq_getElem?_getD, List.getElem?_eq_getElem h]; rfl
theorem f_rd58 {c : JM} {l : List Nat} (hb : wb c l) (h16 : 16 ≤ l.length) {u : Option Int} {N n : Int} : ∀ (d fu i : Nat), i + d = l.length - 16 → d < fu → F10_read_58 fu u N n (crc (l.take i) : Int) (i : Int) c = F10_read_58b (fun _ _ _ _ _ _ => none) u N n (crc (l.take (l.length - 16)) : Int) ((l.length - 16 : Nat) : Int) c
  | _, 0, _, _, q => by omega
  | 0, fu + 1, i, e, _ => by
    show F10_read_58b (F10_read_58 fu) _ _ _ _ _ c = _
    rw [show i = l.length - 16 by omega]
    have h5 := hb.2.1
    have h6 := hb.2.2.1
    have w5 : w32 (c.1 10 0 5 - 16) = ((l.length - 16 : Nat) : Int) := by rw [w32_of (by omega) (by omega)]; omega
    unfold F10_read_58b
    rw [w5, if_pos (Int.le_refl _), if_pos (Int.le_refl _)]
  | d + 1, fu + 1, i, e, q => by
    have ih := f_rd58 hb h16 (u := u) (N := N) (n := n) d fu (i + 1) (by omega) (by omega)
    have h5 := hb.2.1
    have h6 := hb.2.2.1
    have w5 : w32 (c.1 10 0 5 - 16) = ((l.length - 16 : Nat) : Int) := by rw [w32_of (by omega) (by omega)]; omega
    have wi : w32 ((i : Int) + 1) = ((i + 1 : Nat) : Int) := by rw [w32_of (by omega) (by omega)]; omega
    have c1 : ¬ ((l.length - 16 : Nat) : Int) ≤ (i : Int) := by omega
    have c2 : (0 : Int) ≤ (i : Int) ∧ (i : Int) < 256 := by omega
    have iL : i < l.length := by omega
    have hrd := hb.1 i iL
    have e1 : crc (l.take (i + 1)) = cst (crc (l.take i)) (l.getD i 0) := by rw [take_succ' iL, crc_app]; rfl
    show F10_read_58b (F10_read_58 fu) _ _ _ _ _ c = _
    rw [← ih, e1]
    conv => lhs; unfold F10_read_58b
    rw [w5, if_neg c1, g_t c2, hrd, f_step (crc_lt _) (bl_nth hb.2.2.2 i), Option.bind_some, wi]
theorem f_read {c : JM} {U : List Nat} (hU : wu c U) (u : Int) {N : Int} (hN : 1 ≤ N ∧ N ≤ 16) :
    (rd U = none ∧ ∃ c', F10_read (some u) N c = some (0, c') ∧ so w_rb c c') ∨ (∃ l c2 x, rd U = some l ∧ so w_rb c c2 ∧ dm N (vr l 16 6) (fun j => vr l (24 + 8 * j) 8) x ∧ bl l ∧ F10_read (some u) N c = some (1, sL (sI (sI (sI (sI c2 9 u 0 (vr l 0 7 : Int)) 9 u 1 (vr l 7 1 : Int)) 9 u 2 (vr l 8 7 : Int)) 9 u 3 (vr l 15 1 : Int)) 9 u 4 x)) := by
  have f0 := f_isFlag hU 0 (by omega)
  rw [show ((0 : Nat) : Int) = 0 from rfl, List.drop_zero] at f0
  by_cases y : flg.isPrefixOf U = true
  · rw [if_pos y] at f0
    have hl8 : 8 ≤ U.length := by
      rcases Nat.lt_or_ge U.length 8 with h | h
      · exact absurd y (flg_short h)
      · exact h
    have hU2 : wu (sI c 10 0 5 0) U := ⟨ar_cg hU.1 (fun q _ => rI_o (by omega)), by rw [rI_o (by omega)]; exact hU.2.1, hU.2.2.1, hU.2.2.2⟩
    obtain ⟨v, c1, x1, x2, x3⟩ := f_rb10 (U.length - 8) j_fu 8 0 (sI c 10 0 5 0) [] hU2 (by omega) (by have := hU.2.2.1; unfold j_fu; omega) (by omega) ⟨ar_nil _, by rw [rI_s]; rfl, by simp, bl_nil⟩ (by simp)
    have x1' : F10_readBody c = some (v, c1) := x1
    have s1 : so w_rb c c1 := so_tr (so_I (so_rfl c) rfl _ _) x2
    have er : rd U = (uf 0 (U.drop 8)).bind (fun l => if 40 ≤ l.length ∧ l.length = 40 + 8 * vr l 16 6 ∧ 65535 - crc (l.take (l.length - 16)) = vr l (l.length - 16) 16 then some l else none) := by unfold rd; rw [if_pos y]
    rcases x3 with ⟨e1, rfl⟩ | ⟨l, e1, rfl, hb⟩
    · refine Or.inl ⟨by rw [er, e1]; rfl, c1, ?_, s1⟩
      unfold F10_read F10_read_24
      rw [f0, Option.bind_some]
      dsimp only
      rw [if_neg (by decide), x1', Option.bind_some, if_pos rfl]
    · rw [List.nil_append] at hb
      rw [e1, Option.bind_some] at er
      have h5 := hb.2.1
      have h6 := hb.2.2.1
      by_cases c40 : 40 ≤ l.length
      · have n16 := f_num hb (a := 16) (w := 6) (by decide) (by omega)
        have hn := vr_lt hb.2.2.2 16 6
        have st : F10_read (some u) N c = if c1.1 10 0 5 = w32 (40 + w32 (8 * (vr l 16 6 : Int))) then F10_read_58 j_fu (some u) N (vr l 16 6 : Int) 65535 0 c1 else some (0, c1) := by
          unfold F10_read
          rw [f0, Option.bind_some]
          dsimp only
          rw [if_neg (by decide), x1', Option.bind_some]
          dsimp only
          rw [if_neg (by decide), if_pos (by omega), show (16 : Int) = ((16 : Nat) : Int) from rfl, show (6 : Int) = ((6 : Nat) : Int) from rfl, n16, Option.bind_some]
        have ew : w32 (40 + w32 (8 * (vr l 16 6 : Int))) = ((40 + 8 * vr l 16 6 : Nat) : Int) := by
          rw [w32_of (x := 8 * (vr l 16 6 : Int)) (by omega) (by omega), w32_of (by omega) (by omega)]; omega
        rw [ew] at st
        by_cases cl : l.length = 40 + 8 * vr l 16 6
        · rw [if_pos (by omega)] at st
          have e58 := f_rd58 hb (by omega) (u := some u) (N := N) (n := (vr l 16 6 : Int)) (l.length - 16) j_fu 0 (by omega) (by unfold j_fu; omega)
          rw [List.take_zero, show ((crc [] : Nat) : Int) = 65535 from rfl, show ((0 : Nat) : Int) = 0 from rfl] at e58
          rw [e58] at st
          have w5 : w32 (c1.1 10 0 5 - 16) = ((l.length - 16 : Nat) : Int) := by rw [w32_of (by omega) (by omega)]; omega
          have hcr := crc_lt (l.take (l.length - 16))
          have n1 := f_num hb (a := l.length - 16) (w := 16) (by decide) (by omega)
          have wc : w32 (65535 - (crc (l.take (l.length - 16)) : Int)) = ((65535 - crc (l.take (l.length - 16)) : Nat) : Int) := by rw [w32_of (by omega) (by omega)]; omega
          unfold F10_read_58b at st
          rw [w5, if_pos (Int.le_refl _), show (16 : Int) = ((16 : Nat) : Int) from rfl, n1, Option.bind_some, wc] at st
          dsimp only at st
          by_cases cc : 65535 - crc (l.take (l.length - 16)) = vr l (l.length - 16) 16
          · rw [if_pos (by rw [cc]), show (0 : Int) = ((0 : Nat) : Int) from rfl, show (7 : Int) = ((7 : Nat) : Int) from rfl, f_num hb (by decide) (by omega), Option.bind_some, Option.bind_some, lt_d] at st
            dsimp only at st
            have hb1 := wb_9 hb u ((0 : Nat) : Int) (vr l 0 7 : Int)
            rw [show (1 : Int) = ((1 : Nat) : Int) from rfl, f_num hb1 (by decide) (by omega), Option.bind_some, lt_d] at st
            dsimp only at st
            have hb2 := wb_9 hb1 u ((1 : Nat) : Int) (vr l 7 1 : Int)
            rw [show (8 : Int) = ((8 : Nat) : Int) from rfl, f_num hb2 (by decide) (by omega), Option.bind_some, lt_d] at st
            dsimp only at st
            have hb3 := wb_9 hb2 u 2 (vr l 8 7 : Int)
            rw [show (15 : Int) = ((15 : Nat) : Int) from rfl, f_num hb3 (by decide) (by omega), Option.bind_some, lt_d] at st
            dsimp only at st
            have hb4 := wb_9 hb3 u 3 (vr l 15 1 : Int)
            obtain ⟨x, m1, m2⟩ := f_readMsg hb4 cl hN
            rw [m1, Option.bind_some, lt_d] at st
            exact Or.inr ⟨l, c1, x, by rw [er, if_pos ⟨c40, cl, cc⟩], s1, m2, hb.2.2.2, st⟩
          · rw [if_neg (by omega)] at st
            exact Or.inl ⟨by rw [er, if_neg (fun q => cc q.2.2)], c1, st, s1⟩
        · rw [if_neg (by omega)] at st
          exact Or.inl ⟨by rw [er, if_neg (fun q => cl q.2.1)], c1, st, s1⟩
      · refine Or.inl ⟨by rw [er, if_neg (fun q => c40 q.1)], c1, ?_, s1⟩
        unfold F10_read F10_read_24
        rw [f0, Option.bind_some]
        dsimp only
        rw [if_neg (by decide), x1', Option.bind_some]
        dsimp only
        rw [if_neg (by decide), if_neg (by omega)]
  · rw [if_neg y] at f0
    refine Or.inl ⟨by unfold rd; rw [if_neg y], c, ?_, so_rfl c⟩
    unfold F10_read F10_read_24
    rw [f0, Option.bind_some, if_pos rfl]
