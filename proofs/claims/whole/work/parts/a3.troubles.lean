/-! ===== troubles ===== -/
def flp (U : List Nat) (k : Int) : List Nat := if 0 ≤ k ∧ k < U.length then U.set k.toNat (1 - U.getD k.toNat 0) else U
def fls (cur : Int) (U : List Nat) (C : List (Int × Int)) : List Nat := C.foldl (fun U p => if p.1 = cur then flp U p.2 else U) U
theorem flp_len (U : List Nat) (k : Int) : (flp U k).length = U.length := by unfold flp; split <;> simp
theorem flp_bl {U : List Nat} (h : bl U) (k : Int) : bl (flp U k) := by
  unfold flp
  split
  · intro b hb
    rcases List.mem_or_eq_of_mem_set hb with q | q
    · exact h b q
    · rw [q]; omega
  · exact h
theorem fls_len (cur : Int) : ∀ (C : List (Int × Int)) (U : List Nat), (fls cur U C).length = U.length
  | [], _ => rfl
  | p :: C, U => by
    show (fls cur (if p.1 = cur then flp U p.2 else U) C).length = _
    rw [fls_len cur C]
    split
    · exact flp_len U _
    · rfl
theorem fls_bl (cur : Int) : ∀ (C : List (Int × Int)) (U : List Nat), bl U → bl (fls cur U C)
  | [], _, h => h
  | p :: C, U, h => by
    show bl (fls cur (if p.1 = cur then flp U p.2 else U) C)
    refine fls_bl cur C _ ?_
    split
    · exact flp_bl h _
    · exact h
theorem fls_f (cur : Int) : ∀ (R : List (Int × Int)) (U : List Nat), fls cur U (R.filter (fun p => decide (cur ≤ p.1))) = fls cur U R
  | [], _ => rfl
  | p :: R, U => by
    by_cases z : cur ≤ p.1
    · rw [List.filter_cons_of_pos (by simpa using z)]
      show fls cur (if p.1 = cur then flp U p.2 else U) _ = fls cur (if p.1 = cur then flp U p.2 else U) R
      exact fls_f cur R _
    · rw [List.filter_cons_of_neg (by simpa using z)]
      show _ = fls cur (if p.1 = cur then flp U p.2 else U) R
      rw [if_neg (by omega)]
      exact fls_f cur R _
theorem fls_no (cur : Int) : ∀ (R : List (Int × Int)) (U : List Nat), (∀ p ∈ R, p.1 ≠ cur) → fls cur U R = U
  | [], _, _ => rfl
  | p :: R, U, h => by
    show fls cur (if p.1 = cur then flp U p.2 else U) R = _
    rw [if_neg (h p List.mem_cons_self)]
    exact fls_no cur R U (fun q hq => h q (List.mem_cons_of_mem _ hq))
theorem fls_snoc (cur : Int) (C : List (Int × Int)) (p : Int × Int) (U : List Nat) : fls cur U (C ++ [p]) = if p.1 = cur then flp (fls cur U C) p.2 else fls cur U C := by
  unfold fls
  rw [List.foldl_append]
  rfl
theorem gp_mem {R : List (Int × Int)} {j : Nat} (h : j < R.length) : R.getD j (0, 0) ∈ R := by
  rw [List.getD_eq_getElem?_getD, List.getElem?_eq_getElem h]; exact List.getElem_mem h
theorem gp_take {R : List (Int × Int)} {j : Nat} (h : j < R.length) : R.take (j + 1) = R.take j ++ [R.getD j (0, 0)] := by
  rw [List.take_succ_eq_append_getElem h, List.getD_eq_getElem?_getD, List.getElem?_eq_getElem h]; rfl
/-- the class's troubles -/
def tc (c : JM) (t : Int) (C : List (Int × Int)) : Prop := c.1 7 t 2 = (C.length : Int) ∧ C.length ≤ 300 ∧ (∀ j : Nat, j < C.length → c.1 34 t j = (C.getD j (0, 0)).1 ∧ c.1 35 t j = (C.getD j (0, 0)).2) ∧ (∀ p ∈ C, c.1 7 t 3 ≤ p.1) ∧ (C ≠ [] → ∃ p ∈ C, p.1 = c.1 7 t 3)
def rng (R : List (Int × Int)) : Prop := ∀ p ∈ R, 0 ≤ p.1 ∧ p.1 ≤ 30000000 ∧ 0 ≤ p.2 ∧ p.2 ≤ 255
/-- the reference's -/
def ts (m : JM) (R : List (Int × Int)) : Prop := m.1 12 0 75 = (R.length : Int) ∧ R.length ≤ 300 ∧ ∀ j : Nat, j < R.length → (m.1 176 0 j = 0 ∨ m.1 176 0 j = 1) ∧ 2 * m.1 177 0 j + m.1 176 0 j = (R.getD j (0, 0)).1 ∧ m.1 178 0 j = (R.getD j (0, 0)).2
def tl (m : JM) (R : List (Int × Int)) : Prop := m.1 12 0 79 = (R.length : Int) ∧ R.length ≤ 300 ∧ ∀ j : Nat, j < R.length → (m.1 180 0 j = 0 ∨ m.1 180 0 j = 1) ∧ 2 * m.1 181 0 j + m.1 180 0 j = (R.getD j (0, 0)).1 ∧ (R.getD j (0, 0)).2 = 0
theorem f_concern {c : JM} {t : Int} {C : List (Int × Int)} (h : tc c t C) {e n : Int} (he : e = 0 ∨ e = 1) (hn : 0 ≤ n ∧ n ≤ 20000000) (hC : ∀ p ∈ C, 2 * n + e ≤ p.1) : (F7_concern t e n c = some (1, c) ∧ ∃ p ∈ C, p.1 = 2 * n + e) ∨ (F7_concern t e n c = some (0, c) ∧ ∀ p ∈ C, p.1 ≠ 2 * n + e) := by
  obtain ⟨h1, h2, h3, h4, h5⟩ := h
  have wc : w32 (w32 (2 * n) + e) = 2 * n + e := by rw [w32_of (x := 2 * n) (by omega) (by omega), w32_of (by omega) (by omega)]
  unfold F7_concern F7_concern_23
  by_cases z : C = []
  · refine Or.inr ⟨?_, fun p hp => by rw [z] at hp; cases hp⟩
    rw [if_pos (by rw [h1, z]; decide)]
  · have hl : 0 < C.length := List.length_pos_iff.2 z
    rw [if_neg (by omega), wc]
    obtain ⟨p, hp, hp2⟩ := h5 z
    by_cases y : c.1 7 t 3 = 2 * n + e
    · exact Or.inl ⟨by rw [if_pos y], p, hp, by omega⟩
    · refine Or.inr ⟨by rw [if_neg y], fun q hq w => ?_⟩
      have := h4 q hq
      have := hC p hp
      omega
theorem f_turn1 {c : JM} {U : List Nat} (hU : wu c U) {k : Int} (hk : k ≤ 255) : ∃ c', F10_turn k c = some c' ∧ wu c' (flp U k) ∧ (∀ k' n j, k' ≠ 36 → c'.1 k' n j = c.1 k' n j) ∧ c'.2 = c.2 := by
  obtain ⟨h1, h2, h3, h4⟩ := hU
  unfold F10_turn flp
  by_cases z : k < 0
  · rw [if_pos z, if_neg (by omega)]
    exact ⟨c, rfl, ⟨h1, h2, h3, h4⟩, fun _ _ _ _ => rfl, rfl⟩
  · rw [if_neg z, h2]
    by_cases y : (U.length : Int) ≤ k
    · rw [if_pos y, if_neg (by omega)]
      exact ⟨c, rfl, ⟨h1, h2, h3, h4⟩, fun _ _ _ _ => rfl, rfl⟩
    · obtain ⟨n, rfl⟩ := Int.eq_ofNat_of_zero_le (show 0 ≤ k by omega)
      have hn : n < U.length := by omega
      have hbit := bl_nth h4 n
      rw [if_neg y, g_t (by omega), g_t (by omega), if_pos (by omega), Int.toNat_natCast]
      have hr := h1 n hn
      rw [hr]
      generalize hb : U.getD n 0 = b at *
      have e1 : w32 (1 - (b : Int)) = ((1 - b : Nat) : Int) := by rw [w32_of (by omega) (by omega)]; omega
      have e2 : j_i2b ((1 - b : Nat) : Int) = ((1 - b : Nat) : Int) := i2b_of (by omega) (by omega)
      rw [e1, e2, e2, lt_d]
      refine ⟨_, rfl, ⟨fun j hj => ?_, by rw [rI_o (by omega)]; simpa using h2, by simpa using h3, ?_⟩, fun k' _ _ q => rI_o (by omega), rfl⟩
      · rw [List.length_set] at hj
        by_cases w : j = n
        · subst w
          rw [rI_s]
          simp [hj]
        · rw [rI_o (by omega), h1 j hj]
          simp [List.getElem?_set, Ne.symm w]
      · intro x hx
        rcases List.mem_or_eq_of_mem_set hx with q | q
        · exact h4 x q
        · rw [q]; omega
theorem f_turn3 {t e n : Int} (he : e = 0 ∨ e = 1) (hn : 0 ≤ n ∧ n ≤ 20000000) {C : List (Int × Int)} (hC : rng C) : ∀ (d fu i : Nat) (c : JM) (U : List Nat), i + d = C.length → d < fu → tc c t C → wu c U →
    ∃ c', F7_turn_3 fu t e n (some 0) (i : Int) c = some c' ∧ wu c' (fls (2 * n + e) U (C.drop i)) ∧ (∀ k' n j, k' ≠ 36 → c'.1 k' n j = c.1 k' n j) ∧ c'.2 = c.2
  | _, 0, _, _, _, _, q, _, _ => by omega
  | 0, fu + 1, i, c, U, ei, _, ht, hU => by
    refine ⟨c, ?_, by rw [List.drop_of_length_le (by omega)]; exact hU, fun _ _ _ _ => rfl, rfl⟩
    show F7_turn_3b (F7_turn_3 fu) _ _ _ _ _ c = _
    unfold F7_turn_3b
    rw [ht.1, if_pos (by omega)]
  | d + 1, fu + 1, i, c, U, ei, q, ht, hU => by
    have h300 := ht.2.1
    have wi : w32 ((i : Int) + 1) = ((i + 1 : Nat) : Int) := by rw [w32_of (by omega) (by omega)]; omega
    have wc : w32 (w32 (2 * n) + e) = 2 * n + e := by rw [w32_of (x := 2 * n) (by omega) (by omega), w32_of (by omega) (by omega)]
    have iC : i < C.length := by omega
    have c300 : (0 : Int) ≤ (i : Int) ∧ (i : Int) < 300 := by omega
    have cL : ¬ (C.length : Int) ≤ (i : Int) := by omega
    have ei' : i + 1 + d = C.length := by omega
    have dfu : d < fu := by omega
    obtain ⟨r1, r2⟩ := ht.2.2.1 i iC
    have hrg := hC _ (gp_mem iC)
    have ed : C.drop i = C.getD i (0, 0) :: C.drop (i + 1) := by
      rw [List.drop_eq_getElem_cons iC, List.getD_eq_getElem?_getD, List.getElem?_eq_getElem iC]; rfl
    have st : F7_turn_3 (fu + 1) t e n (some 0) (i : Int) c = F7_turn_3b (F7_turn_3 fu) t e n (some 0) (i : Int) c := rfl
    rw [st, ed]
    generalize C.getD i (0, 0) = p at *
    unfold F7_turn_3b F7_turn_38
    rw [ht.1, if_neg cL, g_t c300, r1, wc, wi]
    show ∃ c', _ = some c' ∧ wu c' (fls (2 * n + e) (if p.1 = 2 * n + e then flp U p.2 else U) (C.drop (i + 1))) ∧ _
    by_cases z : p.1 = 2 * n + e
    · rw [if_pos z, if_pos z, g_t c300, Option.bind_some, g_t rfl, r2]
      obtain ⟨c1, a1, a2, a3, a4⟩ := f_turn1 hU hrg.2.2.2
      rw [a1, Option.bind_some]
      have ht1 : tc c1 t C := by
        unfold tc
        rw [a3 7 t 2 (by decide), a3 7 t 3 (by decide)]
        exact ⟨ht.1, ht.2.1, fun j hj => by rw [a3 34 t j (by decide), a3 35 t j (by decide)]; exact ht.2.2.1 j hj, ht.2.2.2⟩
      obtain ⟨c', x1, x2, x3, x4⟩ := f_turn3 he hn hC d fu (i + 1) c1 (flp U p.2) ei' dfu ht1 a2
      exact ⟨c', x1, x2, fun k' n j q => by rw [x3 k' n j q, a3 k' n j q], by rw [x4, a4]⟩
    · rw [if_neg z, if_neg z]
      exact f_turn3 he hn hC d fu (i + 1) c U ei' dfu ht hU
theorem f_forget5 {t e n : Int} (he : e = 0 ∨ e = 1) (hn : 0 ≤ n ∧ n ≤ 20000000) {C : List (Int × Int)} (h300 : C.length ≤ 300) : ∀ (d fu i : Nat) (c : JM) (K : List (Int × Int)), i + d = C.length → d < fu → c.1 7 t 2 = (C.length : Int) → K = (C.take i).filter (fun p => decide (p.1 ≠ 2 * n + e)) →
    (∀ j : Nat, j < K.length → c.1 34 t j = (K.getD j (0, 0)).1 ∧ c.1 35 t j = (K.getD j (0, 0)).2) → (∀ j : Nat, i ≤ j → j < C.length → c.1 34 t j = (C.getD j (0, 0)).1 ∧ c.1 35 t j = (C.getD j (0, 0)).2) → (∀ p ∈ K, c.1 7 t 3 ≤ p.1) → (K ≠ [] → ∃ p ∈ K, p.1 = c.1 7 t 3) →
    ∃ c', F7_forget_5 fu t e n (K.length : Int) (i : Int) c = some c' ∧ tc c' t (C.filter (fun p => decide (p.1 ≠ 2 * n + e))) ∧ (∀ k' n' j, (k' ≠ 7 ∧ k' ≠ 34 ∧ k' ≠ 35) ∨ n' ≠ t → c'.1 k' n' j = c.1 k' n' j) ∧ c'.2 = c.2
  | _, 0, _, _, _, _, q, _, _, _, _, _, _ => by omega
  | 0, fu + 1, i, c, K, ei, _, h2, hK, g1, _, g3, g4 => by
    have hi : i = C.length := by omega
    rw [hi, List.take_length] at hK
    refine ⟨sI c 7 t 2 (K.length : Int), ?_, ?_, fun k' n' j q => rI_o (by omega), rfl⟩
    · show F7_forget_5b (F7_forget_5 fu) _ _ _ _ _ c = _
      unfold F7_forget_5b
      rw [h2, if_pos (by omega), lt_d]
    · rw [← hK]
      have hKl : K.length ≤ 300 := by rw [hK]; exact Nat.le_trans (List.length_filter_le _ _) h300
      refine ⟨rI_s _ _ _ _ _, hKl, fun j hj => ?_, fun p hp => ?_, fun z => ?_⟩
      · rw [rI_o (by omega), rI_o (by omega)]; exact g1 j hj
      · rw [rI_o (by omega)]; exact g3 p hp
      · obtain ⟨p, hp, hp2⟩ := g4 z
        exact ⟨p, hp, by rw [rI_o (by omega)]; exact hp2⟩
  | d + 1, fu + 1, i, c, K, ei, q, h2, hK, g1, g2, g3, g4 => by
    have wi : w32 ((i : Int) + 1) = ((i + 1 : Nat) : Int) := by rw [w32_of (by omega) (by omega)]; omega
    have wc : w32 (w32 (2 * n) + e) = 2 * n + e := by rw [w32_of (x := 2 * n) (by omega) (by omega), w32_of (by omega) (by omega)]
    have iC : i < C.length := by omega
    have hKi : K.length ≤ i := by
      rw [hK]
      refine Nat.le_trans (List.length_filter_le _ _) ?_
      rw [List.length_take]; omega
    have c300 : (0 : Int) ≤ (i : Int) ∧ (i : Int) < 300 := by omega
    have k300 : (0 : Int) ≤ (K.length : Int) ∧ (K.length : Int) < 300 := by omega
    have cL : ¬ (C.length : Int) ≤ (i : Int) := by omega
    have ei' : i + 1 + d = C.length := by omega
    have dfu : d < fu := by omega
    have wk : w32 ((K.length : Int) + 1) = ((K.length + 1 : Nat) : Int) := by rw [w32_of (by omega) (by omega)]; omega
    obtain ⟨r1, r2⟩ := g2 i (Nat.le_refl _) iC
    have et := gp_take iC
    generalize C.getD i (0, 0) = p at *
    have st : F7_forget_5 (fu + 1) t e n (K.length : Int) (i : Int) c = F7_forget_5b (F7_forget_5 fu) t e n (K.length : Int) (i : Int) c := rfl
    rw [st]
    unfold F7_forget_5b
    rw [h2, if_neg cL, g_t c300, r1, wc]
    by_cases z : p.1 = 2 * n + e
    · rw [if_pos z]
      unfold F7_forget_94
      rw [wi]
      exact f_forget5 he hn h300 d fu (i + 1) c K ei' dfu h2 (by rw [et, List.filter_append, ← hK]; simp [z]) g1 (fun j a b => g2 j (by omega) b) g3 g4
    · have eK : (C.take (i + 1)).filter (fun p => decide (p.1 ≠ 2 * n + e)) = K ++ [p] := by
        rw [et, List.filter_append, ← hK]; simp [z]
      have w35 : (sI c 34 t (K.length : Int) p.1).1 35 t (i : Int) = p.2 := by rw [rI_o (by omega)]; exact r2
      rw [if_neg z, g_t c300, g_t k300, lt_d, g_t c300, g_t k300, w35, lt_d]
      obtain ⟨c5, hc5⟩ : ∃ x, x = sI (sI c 34 t (K.length : Int) p.1) 35 t (K.length : Int) p.2 := ⟨_, rfl⟩
      rw [← hc5]
      have c53 : c5.1 7 t 3 = c.1 7 t 3 := by rw [hc5, rI_o (by omega), rI_o (by omega)]
      have c534 : c5.1 34 t (i : Int) = p.1 := by
        rw [hc5, rI_o (by omega)]
        by_cases y : (i : Int) = (K.length : Int)
        · rw [y, rI_s]
        · rw [rI_o (Or.inr (Or.inr y))]; exact r1
      -- what is left, with the soonest v
      have fin : ∀ v : Int, (v = p.1 ∧ (∀ p ∈ K, v ≤ p.1)) ∨ (v = c.1 7 t 3 ∧ K ≠ [] ∧ v ≤ p.1) → ∃ c', F7_forget_88 (F7_forget_5 fu) t e n (K.length : Int) (i : Int) (some t) v c5 = some c' ∧ tc c' t (C.filter (fun p => decide (p.1 ≠ 2 * n + e))) ∧ (∀ k' n' j, (k' ≠ 7 ∧ k' ≠ 34 ∧ k' ≠ 35) ∨ n' ≠ t → c'.1 k' n' j = c.1 k' n' j) ∧ c'.2 = c.2 := fun v hv => by
        unfold F7_forget_88 F7_forget_94
        rw [Option.bind_some, lt_d, wi, wk]
        have A1 : ∀ j : Nat, j < (K ++ [p]).length → (sI c5 7 t 3 v).1 34 t j = ((K ++ [p]).getD j (0, 0)).1 ∧ (sI c5 7 t 3 v).1 35 t j = ((K ++ [p]).getD j (0, 0)).2 := fun j hj => by
          rw [rI_o (Or.inl (by decide)), rI_o (Or.inl (by decide)), hc5]
          by_cases y : j = K.length
          · subst y
            rw [rI_o (Or.inl (by decide)), rI_s, rI_s]
            simp
          · have hj2 : j < K.length := by
              have el : (K ++ [p]).length = K.length + 1 := by simp
              rw [el] at hj
              exact Nat.lt_of_le_of_ne (Nat.le_of_lt_succ hj) y
            have yi : ¬ (j : Int) = (K.length : Int) := fun w => y (Int.ofNat.inj w)
            rw [rI_o (Or.inl (by decide)), rI_o (Or.inr (Or.inr yi)), rI_o (Or.inr (Or.inr yi)), rI_o (Or.inl (by decide))]
            simp only [List.getD_eq_getElem?_getD, List.getElem?_append_left hj2]
            rw [← List.getD_eq_getElem?_getD]
            exact g1 j hj2
        have A2 : ∀ j : Nat, i + 1 ≤ j → j < C.length → (sI c5 7 t 3 v).1 34 t j = (C.getD j (0, 0)).1 ∧ (sI c5 7 t 3 v).1 35 t j = (C.getD j (0, 0)).2 := fun j a b => by
          have yi : ¬ (j : Int) = (K.length : Int) := fun w => Nat.ne_of_gt (Nat.lt_of_le_of_lt hKi a) (Int.ofNat.inj w)
          rw [rI_o (Or.inl (by decide)), rI_o (Or.inl (by decide)), hc5, rI_o (Or.inl (by decide)), rI_o (Or.inr (Or.inr yi)), rI_o (Or.inr (Or.inr yi)), rI_o (Or.inl (by decide))]
          exact g2 j (Nat.le_of_succ_le a) b
        have A3 : ∀ p' ∈ K ++ [p], (sI c5 7 t 3 v).1 7 t 3 ≤ p'.1 := fun p' hp => by
          rw [rI_s]
          rcases List.mem_append.1 hp with q | q
          · rcases hv with ⟨_, hv⟩ | ⟨hv, _⟩
            · exact hv p' q
            · rw [hv]; exact g3 p' q
          · rw [List.mem_singleton.1 q]
            rcases hv with ⟨hv, _⟩ | ⟨_, _, hv⟩
            · rw [hv]; exact Int.le_refl _
            · exact hv
        have A4 : K ++ [p] ≠ [] → ∃ p' ∈ K ++ [p], p'.1 = (sI c5 7 t 3 v).1 7 t 3 := fun _ => by
          rw [rI_s]
          rcases hv with ⟨hv, _⟩ | ⟨hv, hne, _⟩
          · exact ⟨_, List.mem_append_right _ (List.mem_singleton.2 rfl), hv.symm⟩
          · obtain ⟨p', hp, hp2⟩ := g4 hne
            exact ⟨p', List.mem_append_left _ hp, by rw [hp2, hv]⟩
        obtain ⟨c', x1, x2, x3, x4⟩ := f_forget5 (C := C) he hn h300 d fu (i + 1) (sI c5 7 t 3 v) (K ++ [p]) ei' dfu (by rw [rI_o (Or.inr (Or.inr (by decide))), hc5, rI_o (Or.inl (by decide)), rI_o (Or.inl (by decide))]; exact h2) eK.symm A1 A2 A3 A4
        have el : (K ++ [p]).length = K.length + 1 := by simp
        rw [el] at x1
        refine ⟨c', x1, x2, fun k' n' j q => ?_, by rw [x4, hc5]; rfl⟩
        rw [x3 k' n' j q, rI_o (by omega), hc5, rI_o (by omega), rI_o (by omega)]
      unfold F7_forget_74
      by_cases k0 : K.length = 0
      · have kn : K = [] := List.eq_nil_of_length_eq_zero k0
        rw [if_pos (show (K.length : Int) = 0 by rw [k0]; rfl), g_t c300, c534]
        exact fin _ (Or.inl ⟨rfl, fun p hp => by rw [kn] at hp; cases hp⟩)
      · have kn : K ≠ [] := fun w => k0 (by rw [w]; rfl)
        rw [if_neg (show ¬ (K.length : Int) = 0 from fun w => k0 (Int.ofNat.inj w)), g_t c300, c53, c534]
        by_cases y : c.1 7 t 3 ≤ p.1
        · rw [if_pos y]
          exact fin _ (Or.inr ⟨rfl, kn, y⟩)
        · rw [if_neg y, g_t c300]
          exact fin _ (Or.inl ⟨rfl, fun p hp => by have := g3 p hp; omega⟩)
theorem f_forget {t e n : Int} (he : e = 0 ∨ e = 1) (hn : 0 ≤ n ∧ n ≤ 20000000) {C : List (Int × Int)} {c : JM} (h : tc c t C) : ∃ c', F7_forget t e n c = some c' ∧ tc c' t (C.filter (fun p => decide (p.1 ≠ 2 * n + e))) ∧ (∀ k' n' j, (k' ≠ 7 ∧ k' ≠ 34 ∧ k' ≠ 35) ∨ n' ≠ t → c'.1 k' n' j = c.1 k' n' j) ∧ c'.2 = c.2 := by
  have h300 := h.2.1
  obtain ⟨c', x1, x2⟩ := f_forget5 he hn h300 C.length j_fu 0 c [] (by omega) (by unfold j_fu; omega) h.1 rfl (fun j hj => by simp at hj) (fun j _ b => h.2.2.1 j b) (fun p hp => by cases hp) (fun z => absurd rfl z)
  exact ⟨c', x1, x2⟩
theorem nm_w {on v : Nat} (h1 : on < 8) (h2 : v < 256) : w32 (w32 (320 * (on : Int)) + (v : Int)) = ((320 * on + v : Nat) : Int) ∧ ((0 : Int) ≤ ((320 * on + v : Nat) : Int) ∧ ((320 * on + v : Nat) : Int) < 2560) := by
  refine ⟨?_, by omega⟩
  rw [w32_of (x := 320 * (on : Int)) (by omega) (by omega), w32_of (by omega) (by omega)]; omega
theorem nm_b {b : Nat} (h : b < 2) : j_xor (b : Int) 1 = ((1 - b : Nat) : Int) := by
  have h01 : b = 0 ∨ b = 1 := by omega
  rcases h01 with h | h <;> rw [h] <;> decide
theorem nm_ne {on j v : Nat} (h : j ≠ v) : ((320 * on + j : Nat) : Int) ≠ ((320 * on + v : Nat) : Int) := by omega
theorem nm_f {k' : Nat} {n' j : Int} {on v : Nat} (hv : v < 256) (q : k' ≠ 173 ∨ j < 320 * (on : Int) ∨ 320 * (on : Int) + 320 ≤ j) : k' ≠ 173 ∨ n' ≠ 0 ∨ j ≠ ((320 * on + v : Nat) : Int) := by omega
/-- the reference's turns of bits -/
theorem m_460 {e : Int} {on : Nat} {R : List (Int × Int)} {n : Int} (he : e = 0 ∨ e = 1) (hn : 0 ≤ n ∧ n ≤ 20000000) (hR : rng R) : ∀ (d fu i : Nat) (m : JM) (U : List Nat), i + d = R.length → d < fu → ts m R → mw m on U → m.1 12 0 70 = (U.length : Int) → m.1 12 0 2 = n →
    ∃ m', F12_sends_460 fu e (on : Int) (i : Int) m = F12_sends_540 j_fu e (on : Int) 0 m' ∧ mw m' on (fls (2 * n + e) U (R.drop i)) ∧ (∀ k' n' j, k' ≠ 173 ∨ j < 320 * (on : Int) ∨ 320 * (on : Int) + 320 ≤ j → m'.1 k' n' j = m.1 k' n' j) ∧ m'.2 = m.2
  | _, 0, _, _, _, _, q, _, _, _, _ => by omega
  | 0, fu + 1, i, m, U, ei, _, ht, hU, _, _ => by
    refine ⟨m, ?_, by rw [List.drop_of_length_le (by omega)]; exact hU, fun _ _ _ _ => rfl, rfl⟩
    show F12_sends_460b (F12_sends_460 fu) _ _ _ m = _
    unfold F12_sends_460b
    rw [ht.1, if_pos (by omega)]
  | d + 1, fu + 1, i, m, U, ei, q, ht, hU, h70, hnow => by
    have h300 := ht.2.1
    have wi : w32 ((i : Int) + 1) = ((i + 1 : Nat) : Int) := by rw [w32_of (by omega) (by omega)]; omega
    have iR : i < R.length := by omega
    have c300 : (0 : Int) ≤ (i : Int) ∧ (i : Int) < 300 := by omega
    have cL : ¬ (R.length : Int) ≤ (i : Int) := by omega
    have ih := fun m' U' a1 a2 a3 a4 => m_460 (on := on) he hn hR d fu (i + 1) m' U' (by omega) (by omega) a1 a2 a3 a4
    obtain ⟨r0, r1, r2⟩ := ht.2.2 i iR
    have hrg := hR _ (gp_mem iR)
    have ed : R.drop i = R.getD i (0, 0) :: R.drop (i + 1) := by
      rw [List.drop_eq_getElem_cons iR, List.getD_eq_getElem?_getD, List.getElem?_eq_getElem iR]; rfl
    have st : F12_sends_460 (fu + 1) e (on : Int) (i : Int) m = F12_sends_460b (F12_sends_460 fu) e (on : Int) (i : Int) m := rfl
    rw [st, ed]
    generalize R.getD i (0, 0) = p at *
    unfold F12_sends_460b F12_sends_531
    rw [ht.1, if_neg cL, g_t c300, wi, hnow, h70]
    show ∃ m', _ = _ ∧ mw m' on (fls (2 * n + e) (if p.1 = 2 * n + e then flp U p.2 else U) (R.drop (i + 1))) ∧ _
    by_cases z : p.1 = 2 * n + e
    · rw [if_pos z, if_pos (show m.1 176 0 (i : Int) = e by omega), g_t c300, if_pos (show m.1 177 0 (i : Int) = n by omega), g_t c300, r2]
      by_cases y : (U.length : Int) ≤ p.2
      · rw [if_pos y, show flp U p.2 = U by unfold flp; rw [if_neg (by omega)]]
        exact ih m U ht hU h70 hnow
      · obtain ⟨v, hv⟩ := Int.eq_ofNat_of_zero_le hrg.2.2.1
        rw [hv] at y ⊢
        obtain ⟨u1, u2, u3, u4⟩ := hU
        have hvU : v < U.length := by omega
        have v256 : v < 256 := Nat.lt_of_lt_of_le hvU u2
        obtain ⟨wa, c2560⟩ := nm_w u4 v256
        have hvI : (0 : Int) ≤ (v : Int) ∧ (v : Int) < (U.length : Int) := ⟨Int.natCast_nonneg _, Int.ofNat_lt.2 hvU⟩
        have hr := u1 v hvU
        have hbit := bl_nth u3 v
        rw [if_neg y, g_t c300, wa, g_t c2560, g_t c2560, hr, lt_d]
        rw [nm_b hbit]
        have ef : flp U (v : Int) = U.set v (1 - U.getD v 0) := by unfold flp; rw [if_pos hvI, Int.toNat_natCast]
        obtain ⟨m', x1, x2, x3, x4⟩ := ih (sI m 173 0 ((320 * on + v : Nat) : Int) ((1 - U.getD v 0 : Nat) : Int)) (flp U (v : Int)) ⟨by rw [rI_o (Or.inl (by decide))]; exact ht.1, ht.2.1, fun j hj => by rw [rI_o (Or.inl (by decide)), rI_o (Or.inl (by decide)), rI_o (Or.inl (by decide))]; exact ht.2.2 j hj⟩ (by
          refine ⟨fun j hj => ?_, by rw [flp_len]; exact u2, flp_bl u3 _, u4⟩
          rw [flp_len] at hj
          rw [ef]
          by_cases w : j = v
          · subst w
            rw [rI_s]
            simp [hj]
          · rw [rI_o (Or.inr (Or.inr (nm_ne w))), u1 j hj]
            simp [List.getElem?_set, Ne.symm w]) (by rw [rI_o (Or.inl (by decide)), flp_len]; exact h70) (by rw [rI_o (Or.inl (by decide))]; exact hnow)
        refine ⟨m', x1, x2, fun k' n' j q => ?_, by rw [x4]; rfl⟩
        rw [x3 k' n' j q, rI_o (nm_f v256 q)]
    · rw [if_neg z]
      by_cases y : m.1 176 0 (i : Int) = e
      · rw [if_pos y, g_t c300, if_neg (show ¬ m.1 177 0 (i : Int) = n by omega)]
        exact ih m U ht hU h70 hnow
      · rw [if_neg y]
        exact ih m U ht hU h70 hnow
theorem m_540 {e : Int} {on : Nat} (ho : on < 8) {R : List (Int × Int)} {n : Int} (he : e = 0 ∨ e = 1) : ∀ (d fu i : Nat) (m : JM), i + d = R.length → d < fu → tl m R → m.1 12 0 2 = n →
    ∃ m', F12_sends_540 fu e (on : Int) (i : Int) m = some m' ∧ ((m' = m ∧ ∀ p ∈ R.drop i, p.1 ≠ 2 * n + e) ∨ (m' = sI m 174 0 (on : Int) 0 ∧ ∃ p ∈ R.drop i, p.1 = 2 * n + e))
  | _, 0, _, _, _, q, _, _ => by omega
  | 0, fu + 1, i, m, ei, _, ht, _ => by
    refine ⟨m, ?_, Or.inl ⟨rfl, fun p hp => by rw [List.drop_of_length_le (by omega)] at hp; cases hp⟩⟩
    show F12_sends_540b (F12_sends_540 fu) _ _ _ m = _
    unfold F12_sends_540b
    rw [ht.1, if_pos (by omega)]
  | d + 1, fu + 1, i, m, ei, q, ht, hnow => by
    have h300 := ht.2.1
    have wi : w32 ((i : Int) + 1) = ((i + 1 : Nat) : Int) := by rw [w32_of (by omega) (by omega)]; omega
    have iR : i < R.length := by omega
    have c300 : (0 : Int) ≤ (i : Int) ∧ (i : Int) < 300 := by omega
    have cL : ¬ (R.length : Int) ≤ (i : Int) := by omega
    have o8 : (0 : Int) ≤ (on : Int) ∧ (on : Int) < 8 := by omega
    have ih := fun m' a1 a2 => m_540 (n := n) (R := R) ho he d fu (i + 1) m' (by omega) (by omega) a1 a2
    obtain ⟨r0, r1, _⟩ := ht.2.2 i iR
    have ed : R.drop i = R.getD i (0, 0) :: R.drop (i + 1) := by
      rw [List.drop_eq_getElem_cons iR, List.getD_eq_getElem?_getD, List.getElem?_eq_getElem iR]; rfl
    have st : F12_sends_540 (fu + 1) e (on : Int) (i : Int) m = F12_sends_540b (F12_sends_540 fu) e (on : Int) (i : Int) m := rfl
    rw [st, ed]
    generalize R.getD i (0, 0) = p at *
    unfold F12_sends_540b F12_sends_582
    rw [ht.1, if_neg cL, g_t c300, wi, hnow]
    have no : p.1 ≠ 2 * n + e → ∃ m', F12_sends_540 fu e (on : Int) ((i + 1 : Nat) : Int) m = some m' ∧ ((m' = m ∧ ∀ q ∈ p :: R.drop (i + 1), q.1 ≠ 2 * n + e) ∨ (m' = sI m 174 0 (on : Int) 0 ∧ ∃ q ∈ p :: R.drop (i + 1), q.1 = 2 * n + e)) := fun z => by
      obtain ⟨m', x1, x2⟩ := ih m ht hnow
      refine ⟨m', x1, ?_⟩
      rcases x2 with ⟨y1, y2⟩ | ⟨y1, p, y2, y3⟩
      · refine Or.inl ⟨y1, fun p hp => ?_⟩
        rcases List.mem_cons.1 hp with h | h
        · rw [h]; exact z
        · exact y2 p h
      · exact Or.inr ⟨y1, p, List.mem_cons_of_mem _ y2, y3⟩
    by_cases z : p.1 = 2 * n + e
    · rw [if_pos (show m.1 180 0 (i : Int) = e by omega), g_t c300, if_pos (show m.1 181 0 (i : Int) = n by omega), g_t o8, lt_d]
      obtain ⟨m', x1, x2⟩ := ih (sI m 174 0 (on : Int) 0) ⟨by rw [rI_o (by omega)]; exact ht.1, ht.2.1, fun j hj => by rw [rI_o (by omega), rI_o (by omega)]; exact ht.2.2 j hj⟩ (by rw [rI_o (by omega)]; exact hnow)
      refine ⟨m', x1, Or.inr ⟨?_, _, List.mem_cons_self, z⟩⟩
      rcases x2 with ⟨y1, _⟩ | ⟨y1, _⟩
      · exact y1
      · rw [y1, sI_sI]
    · by_cases y : m.1 180 0 (i : Int) = e
      · rw [if_pos y, g_t c300, if_neg (show ¬ m.1 181 0 (i : Int) = n by omega)]
        exact no z
      · rw [if_neg y]
        exact no z
