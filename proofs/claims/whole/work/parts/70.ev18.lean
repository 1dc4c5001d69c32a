-- X12_isFlag
abbrev T12_isFlag : JT := (RX12, cX12_isFlag, 3, some .boolean, false)
set_option maxRecDepth 100000 in
set_option maxHeartbeats 4000000 in
theorem E12_isFlag_28 (k2 : Option Int → Int → Int → JM → Option (Int × JM)) (hk2 : ∀ (l0 : Option Int) (l1 : Int) (l2 : Int) (h : JM) (res : (Int × JM)), k2 l0 l1 l2 h = some res → Ev j_W1 1 0 0 T12_isFlag 2 [(0, .inr (.inr (Option.map (Prod.mk 173) (l0)))), (1, .inl (l1)), (2, .inl (l2))] [] h (some (.inl res.1)) res.2) (l0 : Option Int) (l1 : Int) (l2 : Int) (s0 : Int) (s1 : Int) (h : JM) (res : (Int × JM)) (H : F12_isFlag_28 k2 l0 l1 l2 s0 s1 h = some res) : Ev j_W1 1 0 0 T12_isFlag 28 [(0, .inr (.inr (Option.map (Prod.mk 173) (l0)))), (1, .inl (l1)), (2, .inl (l2))] [.inl (s1), .inl (s0)] h (some (.inl res.1)) res.2 := by
  unfold F12_isFlag_28 at H
  refine ev_icmpeq 33 dX12_isFlag_28 (kt := fun hc => ?_) (kf := fun hc => ?_)
  · replace H := if_pe hc H
    refine ev_iinc 2 [(2, .inl (w32 (l2 + 1))), (0, .inr (.inr (Option.map (Prod.mk 173) (l0)))), (1, .inl (l1))] dX12_isFlag_33 (k := ?_)
    refine ev_goto 2 dX12_isFlag_36 (k := ?_)
    refine ev_lv [1, 2, 0] [(0, .inr (.inr (Option.map (Prod.mk 173) (l0)))), (1, .inl (l1)), (2, .inl (w32 (l2 + 1)))] (k := ?_)
    exact hk2 l0 l1 (w32 (l2 + 1)) h _ H
  · replace H := if_ne hc H
    refine ev_iconst dX12_isFlag_31 (k := ?_)
    cases H
    exact ev_zreturn (Or.inl rfl) dX12_isFlag_32
set_option maxRecDepth 100000 in
set_option maxHeartbeats 4000000 in
theorem E12_isFlag_23 (k2 : Option Int → Int → Int → JM → Option (Int × JM)) (hk2 : ∀ (l0 : Option Int) (l1 : Int) (l2 : Int) (h : JM) (res : (Int × JM)), k2 l0 l1 l2 h = some res → Ev j_W1 1 0 0 T12_isFlag 2 [(0, .inr (.inr (Option.map (Prod.mk 173) (l0)))), (1, .inl (l1)), (2, .inl (l2))] [] h (some (.inl res.1)) res.2) (l0 : Option Int) (l1 : Int) (l2 : Int) (s0 : Int) (h : JM) (res : (Int × JM)) (H : F12_isFlag_23 k2 l0 l1 l2 s0 h = some res) : Ev j_W1 1 0 0 T12_isFlag 23 [(0, .inr (.inr (Option.map (Prod.mk 173) (l0)))), (1, .inl (l1)), (2, .inl (l2))] [.inl (s0)] h (some (.inl res.1)) res.2 := by
  unfold F12_isFlag_23 at H
  refine ev_iconst dX12_isFlag_23 (k := ?_)
  refine ev_goto 28 dX12_isFlag_24 (k := ?_)
  exact E12_isFlag_28 k2 hk2 l0 l1 l2 s0 0 h _ H
set_option maxRecDepth 100000 in
set_option maxHeartbeats 4000000 in
theorem E12_isFlag_2b (k2 : Option Int → Int → Int → JM → Option (Int × JM)) (hk2 : ∀ (l0 : Option Int) (l1 : Int) (l2 : Int) (h : JM) (res : (Int × JM)), k2 l0 l1 l2 h = some res → Ev j_W1 1 0 0 T12_isFlag 2 [(0, .inr (.inr (Option.map (Prod.mk 173) (l0)))), (1, .inl (l1)), (2, .inl (l2))] [] h (some (.inl res.1)) res.2) (l0 : Option Int) (l1 : Int) (l2 : Int) (h : JM) (res : (Int × JM)) (H : F12_isFlag_2b k2 l0 l1 l2 h = some res) : Ev j_W1 1 0 0 T12_isFlag 2 [(0, .inr (.inr (Option.map (Prod.mk 173) (l0)))), (1, .inl (l1)), (2, .inl (l2))] [] h (some (.inl res.1)) res.2 := by
  unfold F12_isFlag_2b at H
  refine ev_iload_n 2 dX12_isFlag_2 (k := ?_)
  refine ev_bipush dX12_isFlag_3 (k := ?_)
  refine ev_icmpge 39 dX12_isFlag_5 (kt := fun hc => ?_) (kf := fun hc => ?_)
  · replace H := if_pe hc H
    refine ev_iconst dX12_isFlag_39 (k := ?_)
    cases H
    exact ev_zreturn (Or.inr rfl) dX12_isFlag_40
  · replace H := if_ne hc H
    refine ev_aload_n 0 dX12_isFlag_8 (k := ?_)
    refine ev_iload_n 1 dX12_isFlag_9 (k := ?_)
    refine ev_iload_n 2 dX12_isFlag_10 (k := ?_)
    refine ev_iadd dX12_isFlag_11 (k := ?_)
    obtain ⟨a1, ea1, H1⟩ := bd_e H
    clear H
    rw [ea1]
    obtain ⟨⟨hi0, hi1⟩, H2⟩ := g_e H1
    clear H1
    refine ev_iaload (k := 173) hi0 hi1 dX12_isFlag_12 (hc := ac_173) (hlen := ln_173 _ _) (K := ?_)
    refine ev_iload_n 2 dX12_isFlag_13 (k := ?_)
    refine ev_ifeq 23 dX12_isFlag_14 (kt := fun hc => ?_) (kf := fun hc => ?_)
    · replace H2 := if_pe hc H2
      exact E12_isFlag_23 k2 hk2 (some a1) l1 l2 (h.1 173 a1 (w32 (l1 + l2))) h _ H2
    · replace H2 := if_ne hc H2
      refine ev_iload_n 2 dX12_isFlag_17 (k := ?_)
      refine ev_bipush dX12_isFlag_18 (k := ?_)
      refine ev_icmpne 27 dX12_isFlag_20 (kt := fun hc => ?_) (kf := fun hc => ?_)
      · replace H2 := if_ne hc H2
        refine ev_iconst dX12_isFlag_27 (k := ?_)
        exact E12_isFlag_28 k2 hk2 (some a1) l1 l2 (h.1 173 a1 (w32 (l1 + l2))) 1 h _ H2
      · replace H2 := if_pe hc H2
        exact E12_isFlag_23 k2 hk2 (some a1) l1 l2 (h.1 173 a1 (w32 (l1 + l2))) h _ H2
theorem E12_isFlag_2 (n : Nat) : ∀ (l0 : Option Int) (l1 : Int) (l2 : Int) (h : JM) (res : (Int × JM)), F12_isFlag_2 n l0 l1 l2 h = some res → Ev j_W1 1 0 0 T12_isFlag 2 [(0, .inr (.inr (Option.map (Prod.mk 173) (l0)))), (1, .inl (l1)), (2, .inl (l2))] [] h (some (.inl res.1)) res.2 := by
  induction n with
  | zero =>
    intro l0 l1 l2 h res H
    cases H
  | succ n ih =>
    intro l0 l1 l2 h res H
    exact E12_isFlag_2b (F12_isFlag_2 n) ih l0 l1 l2 h res H
set_option maxRecDepth 100000 in
set_option maxHeartbeats 4000000 in
theorem C12_isFlag {l0 : Option Int} {l1 : Int} {h : JM} {res : (Int × JM)} (H : F12_isFlag l0 l1 h = some res) : Cn j_W1 1 0 0 yX12_isFlag cX12_isFlag 3 (some .boolean) [.inr (.inr (Option.map (Prod.mk 173) (l0))), .inl (l1)] h (some (.inl res.1)) res.2 := by
  refine Cn.by (own := RX12) (b := false) [(0, .inr (.inr (Option.map (Prod.mk 173) (l0)))), (1, .inl (l1))] rfl (fun z => by cases z) (by decide +kernel) (K := ?_)
  unfold F12_isFlag at H
  refine ev_iconst dX12_isFlag_0 (k := ?_)
  refine ev_istore_n [(2, .inl (0)), (0, .inr (.inr (Option.map (Prod.mk 173) (l0)))), (1, .inl (l1))] dX12_isFlag_1 (k := ?_)
  refine ev_lv [1, 2, 0] [(0, .inr (.inr (Option.map (Prod.mk 173) (l0)))), (1, .inl (l1)), (2, .inl (0))] (k := ?_)
  exact E12_isFlag_2 j_fu l0 l1 0 h _ H
-- X12_read
abbrev T12_read : JT := (RX12, cX12_read, 5, some .int, false)
set_option maxRecDepth 100000 in
set_option maxHeartbeats 4000000 in
theorem E12_read_7b (k7 : Int → Int → Int → JM → Option (Int × JM)) (hk7 : ∀ (l1 : Int) (l3 : Int) (l4 : Int) (h : JM) (res : (Int × JM)), k7 l1 l3 l4 h = some res → Ev j_W1 1 0 0 T12_read 7 [(0, .inr (.inr (some (12, 0)))), (1, .inl (l1)), (3, .inl (l3)), (4, .inl (l4))] [] h (some (.inl res.1)) res.2) (l1 : Int) (l3 : Int) (l4 : Int) (h : JM) (res : (Int × JM)) (H : F12_read_7b k7 l1 l3 l4 h = some res) : Ev j_W1 1 0 0 T12_read 7 [(0, .inr (.inr (some (12, 0)))), (1, .inl (l1)), (3, .inl (l3)), (4, .inl (l4))] [] h (some (.inl res.1)) res.2 := by
  unfold F12_read_7b at H
  refine ev_iload 3 dX12_read_7 (k := ?_)
  refine ev_iflt 32 dX12_read_9 (kt := fun hc => ?_) (kf := fun hc => ?_)
  · replace H := if_pe hc H
    refine ev_iload_n 2 dX12_read_32 (k := ?_)
    cases H
    exact ev_ireturn dX12_read_33
  · replace H := if_ne hc H
    refine ev_iconst dX12_read_12 (k := ?_)
    refine ev_iload_n 2 dX12_read_13 (k := ?_)
    refine ev_imul dX12_read_14 (k := ?_)
    refine ev_aload_n 0 dX12_read_15 (k := ?_)
    refine ev_getR (t := 182) (x := some (182, 0)) fl_X12_231 dX12_read_16 (hx := ry_12_82 _ _) (K := ?_)
    refine ev_iload_n 1 dX12_read_19 (k := ?_)
    refine ev_iload 3 dX12_read_20 (k := ?_)
    refine ev_iadd dX12_read_22 (k := ?_)
    obtain ⟨⟨hi0, hi1⟩, H1⟩ := g_e H
    clear H
    refine ev_iaload (k := 182) hi0 hi1 dX12_read_23 (hc := ac_182) (hlen := ln_182 _ _) (K := ?_)
    refine ev_iadd dX12_read_24 (k := ?_)
    obtain ⟨x1, ex1, H2⟩ := lt_e H1
    clear H1
    refine ev_topI ex1 ?_
    refine ev_istore_n [(3, .inl (x1)), (0, .inr (.inr (some (12, 0)))), (1, .inl (l1)), (4, .inl (l4))] dX12_read_25 (k := ?_)
    refine ev_iinc 3 [(4, .inl (w32 (l4 + (-1)))), (3, .inl (x1)), (0, .inr (.inr (some (12, 0)))), (1, .inl (l1))] dX12_read_26 (k := ?_)
    refine ev_goto 7 dX12_read_29 (k := ?_)
    refine ev_lv [2, 3, 1, 0] [(0, .inr (.inr (some (12, 0)))), (1, .inl (l1)), (3, .inl (x1)), (4, .inl (w32 (l4 + (-1))))] (k := ?_)
    exact hk7 l1 x1 (w32 (l4 + (-1))) h _ H2
theorem E12_read_7 (n : Nat) : ∀ (l1 : Int) (l3 : Int) (l4 : Int) (h : JM) (res : (Int × JM)), F12_read_7 n l1 l3 l4 h = some res → Ev j_W1 1 0 0 T12_read 7 [(0, .inr (.inr (some (12, 0)))), (1, .inl (l1)), (3, .inl (l3)), (4, .inl (l4))] [] h (some (.inl res.1)) res.2 := by
  induction n with
  | zero =>
    intro l1 l3 l4 h res H
    cases H
  | succ n ih =>
    intro l1 l3 l4 h res H
    exact E12_read_7b (F12_read_7 n) ih l1 l3 l4 h res H
set_option maxRecDepth 100000 in
set_option maxHeartbeats 4000000 in
theorem C12_read {l1 : Int} {l2 : Int} {h : JM} {res : (Int × JM)} (H : F12_read l1 l2 h = some res) : Cn j_W1 1 0 0 yX12_read cX12_read 5 (some .int) [.inr (.inr (some (12, 0))), .inl (l1), .inl (l2)] h (some (.inl res.1)) res.2 := by
  refine Cn.by (own := RX12) (b := false) [(0, .inr (.inr (some (12, 0)))), (1, .inl (l1)), (2, .inl (l2))] rfl (fun z => by cases z) (by decide +kernel) (K := ?_)
  unfold F12_read at H
  refine ev_iconst dX12_read_0 (k := ?_)
  refine ev_istore_n [(3, .inl (0)), (0, .inr (.inr (some (12, 0)))), (1, .inl (l1)), (2, .inl (l2))] dX12_read_1 (k := ?_)
  refine ev_iload_n 3 dX12_read_2 (k := ?_)
  refine ev_iconst dX12_read_3 (k := ?_)
  refine ev_isub dX12_read_4 (k := ?_)
  obtain ⟨x2, ex2, H1⟩ := lt_e H
  clear H
  refine ev_topI ex2 ?_
  refine ev_istore [(4, .inl (x2)), (3, .inl (0)), (0, .inr (.inr (some (12, 0)))), (1, .inl (l1)), (2, .inl (l2))] dX12_read_5 (k := ?_)
  refine ev_lv [2, 3, 1, 0] [(0, .inr (.inr (some (12, 0)))), (1, .inl (l1)), (3, .inl (0)), (4, .inl (x2))] (k := ?_)
  exact E12_read_7 j_fu l1 0 x2 h _ H1
-- X12_isRight
abbrev T12_isRight : JT := (RX12, cX12_isRight, 8, some .boolean, false)
set_option maxRecDepth 100000 in
set_option maxHeartbeats 4000000 in
theorem E12_isRight_213 (h : JM) (res : (Int × JM)) (H : F12_isRight_213 h = some res) : Ev j_W1 2 0 0 T12_isRight 213 [] [] h (some (.inl res.1)) res.2 := by
  unfold F12_isRight_213 at H
  refine ev_iconst dX12_isRight_213 (k := ?_)
  cases H
  exact ev_zreturn (Or.inl rfl) dX12_isRight_214
set_option maxRecDepth 100000 in
set_option maxHeartbeats 4000000 in
theorem E12_isRight_172 (k89 : Int → Int → Int → Int → JM → Option (Int × JM)) (hk89 : ∀ (l4 : Int) (l5 : Int) (l6 : Int) (l7 : Int) (h : JM) (res : (Int × JM)), k89 l4 l5 l6 l7 h = some res → Ev j_W1 2 0 0 T12_isRight 89 [(0, .inr (.inr (some (12, 0)))), (4, .inl (l4)), (5, .inl (l5)), (6, .inl (l6)), (7, .inl (l7))] [] h (some (.inl res.1)) res.2) (l4 : Int) (l5 : Int) (l6 : Int) (l7 : Int) (h : JM) (res : (Int × JM)) (H : F12_isRight_172 k89 l4 l5 l6 l7 h = some res) : Ev j_W1 2 0 0 T12_isRight 172 [(0, .inr (.inr (some (12, 0)))), (4, .inl (l4)), (5, .inl (l5)), (6, .inl (l6)), (7, .inl (l7))] [] h (some (.inl res.1)) res.2 := by
  unfold F12_isRight_172 at H
  refine ev_iinc 4 [(7, .inl (w32 (l7 + 1))), (0, .inr (.inr (some (12, 0)))), (4, .inl (l4)), (5, .inl (l5)), (6, .inl (l6))] dX12_isRight_172 (k := ?_)
  refine ev_goto 89 dX12_isRight_175 (k := ?_)
  refine ev_lv [1, 2, 3, 4, 0] [(0, .inr (.inr (some (12, 0)))), (4, .inl (l4)), (5, .inl (l5)), (6, .inl (l6)), (7, .inl (w32 (l7 + 1)))] (k := ?_)
  exact hk89 l4 l5 l6 (w32 (l7 + 1)) h _ H
set_option maxRecDepth 100000 in
set_option maxHeartbeats 4000000 in
theorem E12_isRight_170 (k89 : Int → Int → Int → Int → JM → Option (Int × JM)) (hk89 : ∀ (l4 : Int) (l5 : Int) (l6 : Int) (l7 : Int) (h : JM) (res : (Int × JM)), k89 l4 l5 l6 l7 h = some res → Ev j_W1 2 0 0 T12_isRight 89 [(0, .inr (.inr (some (12, 0)))), (4, .inl (l4)), (5, .inl (l5)), (6, .inl (l6)), (7, .inl (l7))] [] h (some (.inl res.1)) res.2) (l4 : Int) (l6 : Int) (l7 : Int) (s0 : Int) (h : JM) (res : (Int × JM)) (H : F12_isRight_170 k89 l4 l6 l7 s0 h = some res) : Ev j_W1 2 0 0 T12_isRight 170 [(0, .inr (.inr (some (12, 0)))), (4, .inl (l4)), (6, .inl (l6)), (7, .inl (l7))] [.inl (s0)] h (some (.inl res.1)) res.2 := by
  unfold F12_isRight_170 at H
  refine ev_istore [(5, .inl (s0)), (0, .inr (.inr (some (12, 0)))), (4, .inl (l4)), (6, .inl (l6)), (7, .inl (l7))] dX12_isRight_170 (k := ?_)
  refine ev_lv [1, 2, 0, 3, 4] [(0, .inr (.inr (some (12, 0)))), (4, .inl (l4)), (5, .inl (s0)), (6, .inl (l6)), (7, .inl (l7))] (k := ?_)
  exact E12_isRight_172 k89 hk89 l4 s0 l6 l7 h _ H
set_option maxRecDepth 100000 in
set_option maxHeartbeats 4000000 in
theorem E12_isRight_119 (k89 : Int → Int → Int → Int → JM → Option (Int × JM)) (hk89 : ∀ (l4 : Int) (l5 : Int) (l6 : Int) (l7 : Int) (h : JM) (res : (Int × JM)), k89 l4 l5 l6 l7 h = some res → Ev j_W1 2 0 0 T12_isRight 89 [(0, .inr (.inr (some (12, 0)))), (4, .inl (l4)), (5, .inl (l5)), (6, .inl (l6)), (7, .inl (l7))] [] h (some (.inl res.1)) res.2) (l4 : Int) (l7 : Int) (s0 : Int) (s1 : Int) (h : JM) (res : (Int × JM)) (H : F12_isRight_119 k89 l4 l7 s0 s1 h = some res) : Ev j_W1 2 0 0 T12_isRight 119 [(0, .inr (.inr (some (12, 0)))), (4, .inl (l4)), (7, .inl (l7))] [.inl (s1), .inl (s0)] h (some (.inl res.1)) res.2 := by
  unfold F12_isRight_119 at H
  refine ev_iand dX12_isRight_119 (k := ?_)
  obtain ⟨x1, ex1, H1⟩ := lt_e H
  clear H
  refine ev_topI ex1 ?_
  refine ev_istore [(6, .inl (x1)), (0, .inr (.inr (some (12, 0)))), (4, .inl (l4)), (7, .inl (l7))] dX12_isRight_120 (k := ?_)
  refine ev_iconst dX12_isRight_122 (k := ?_)
  refine ev_istore [(5, .inl (0)), (6, .inl (x1)), (0, .inr (.inr (some (12, 0)))), (4, .inl (l4)), (7, .inl (l7))] dX12_isRight_123 (k := ?_)
  refine ev_goto 172 dX12_isRight_125 (k := ?_)
  refine ev_lv [2, 3, 0, 1, 4] [(0, .inr (.inr (some (12, 0)))), (4, .inl (l4)), (5, .inl (0)), (6, .inl (x1)), (7, .inl (l7))] (k := ?_)
  exact E12_isRight_172 k89 hk89 l4 0 x1 l7 h _ H1
set_option maxRecDepth 100000 in
set_option maxHeartbeats 4000000 in
theorem E12_isRight_89b (k89 : Int → Int → Int → Int → JM → Option (Int × JM)) (hk89 : ∀ (l4 : Int) (l5 : Int) (l6 : Int) (l7 : Int) (h : JM) (res : (Int × JM)), k89 l4 l5 l6 l7 h = some res → Ev j_W1 2 0 0 T12_isRight 89 [(0, .inr (.inr (some (12, 0)))), (4, .inl (l4)), (5, .inl (l5)), (6, .inl (l6)), (7, .inl (l7))] [] h (some (.inl res.1)) res.2) (l4 : Int) (l5 : Int) (l6 : Int) (l7 : Int) (h : JM) (res : (Int × JM)) (H : F12_isRight_89b k89 l4 l5 l6 l7 h = some res) : Ev j_W1 2 0 0 T12_isRight 89 [(0, .inr (.inr (some (12, 0)))), (4, .inl (l4)), (5, .inl (l5)), (6, .inl (l6)), (7, .inl (l7))] [] h (some (.inl res.1)) res.2 := by
  unfold F12_isRight_89b at H
  refine ev_iload 4 dX12_isRight_89 (k := ?_)
  refine ev_iload 1 dX12_isRight_91 (k := ?_)
  refine ev_icmpge 178 dX12_isRight_93 (kt := fun hc => ?_) (kf := fun hc => ?_)
  · replace H := if_pe hc H
    refine ev_iload 3 dX12_isRight_178 (k := ?_)
    refine ev_ifeq 213 dX12_isRight_180 (kt := fun hc => ?_) (kf := fun hc => ?_)
    · replace H := if_pe hc H
      refine ev_lv [] [] (k := ?_)
      exact E12_isRight_213 h _ H
    · replace H := if_ne hc H
      refine ev_aload_n 0 dX12_isRight_183 (k := ?_)
      refine ev_getI (x := h.1 12 0 83) fl_X12_428 dX12_isRight_184 (K := ?_)
      refine ev_bipush dX12_isRight_187 (k := ?_)
      refine ev_icmplt 213 dX12_isRight_189 (kt := fun hc => ?_) (kf := fun hc => ?_)
      · replace H := if_pe hc H
        refine ev_lv [] [] (k := ?_)
        exact E12_isRight_213 h _ H
      · replace H := if_ne hc H
        refine ev_aload_n 0 dX12_isRight_192 (k := ?_)
        refine ev_getI (x := h.1 12 0 83) fl_X12_428 dX12_isRight_193 (K := ?_)
        refine ev_bipush dX12_isRight_196 (k := ?_)
        refine ev_bipush dX12_isRight_198 (k := ?_)
        refine ev_aload_n 0 dX12_isRight_200 (k := ?_)
        refine ev_bipush dX12_isRight_201 (k := ?_)
        refine ev_bipush dX12_isRight_203 (k := ?_)
        obtain ⟨q2, hq, H1⟩ := bd_e H
        clear H
        refine ev_callV (mc := 0) (ms := 0) (st := [.inl (8), .inl (40), .inl (h.1 12 0 83)]) (C12_read hq) md_X12_read im_X12_read se_X12_read ml_X12_450 dX12_isRight_205 _ (by decide) (K := ?_)
        refine ev_imul dX12_isRight_208 (k := ?_)
        refine ev_iadd dX12_isRight_209 (k := ?_)
        refine ev_icmpeq 215 dX12_isRight_210 (kt := fun hc => ?_) (kf := fun hc => ?_)
        · replace H1 := if_pe hc H1
          refine ev_aload_n 0 dX12_isRight_215 (k := ?_)
          refine ev_getR (t := 182) (x := some (182, 0)) fl_X12_231 dX12_isRight_216 (hx := ry_12_82 _ _) (K := ?_)
          refine ev_iconst dX12_isRight_219 (k := ?_)
          refine ev_aload_n 0 dX12_isRight_220 (k := ?_)
          refine ev_getI (x := q2.2.1 12 0 83) fl_X12_428 dX12_isRight_221 (K := ?_)
          refine ev_bipush dX12_isRight_224 (k := ?_)
          refine ev_isub dX12_isRight_226 (k := ?_)
          obtain ⟨q3, hq, H2⟩ := bd_e H1
          clear H1
          refine ev_callS (mc := 0) (ms := 0) (st := []) (C12_check hq) md_X12_check ss_X12_check ml_X12_439 dX12_isRight_227 _ (by decide) (K := ?_)
          refine ev_aload_n 0 dX12_isRight_230 (k := ?_)
          refine ev_aload_n 0 dX12_isRight_231 (k := ?_)
          refine ev_getI (x := q3.2.1 12 0 83) fl_X12_428 dX12_isRight_232 (K := ?_)
          refine ev_bipush dX12_isRight_235 (k := ?_)
          refine ev_isub dX12_isRight_237 (k := ?_)
          refine ev_bipush dX12_isRight_238 (k := ?_)
          obtain ⟨q4, hq, H3⟩ := bd_e H2
          clear H2
          refine ev_callV (mc := 0) (ms := 0) (st := [.inl (q3.1)]) (C12_read hq) md_X12_read im_X12_read se_X12_read ml_X12_450 dX12_isRight_240 _ (by decide) (K := ?_)
          refine ev_icmpne 250 dX12_isRight_243 (kt := fun hc => ?_) (kf := fun hc => ?_)
          · replace H3 := if_ne hc H3
            refine ev_iconst dX12_isRight_250 (k := ?_)
            cases H3
            exact ev_zreturn (Or.inl rfl) dX12_isRight_251
          · replace H3 := if_pe hc H3
            refine ev_iconst dX12_isRight_246 (k := ?_)
            refine ev_goto 251 dX12_isRight_247 (k := ?_)
            cases H3
            exact ev_zreturn (Or.inr rfl) dX12_isRight_251
        · replace H1 := if_ne hc H1
          refine ev_lv [] [] (k := ?_)
          exact E12_isRight_213 q2.2 _ H1
  · replace H := if_ne hc H
    refine ev_iload 2 dX12_isRight_96 (k := ?_)
    refine ev_iconst dX12_isRight_98 (k := ?_)
    refine ev_icmpne 128 dX12_isRight_99 (kt := fun hc => ?_) (kf := fun hc => ?_)
    · replace H := if_ne hc H
      refine ev_aload_n 0 dX12_isRight_128 (k := ?_)
      refine ev_getR (t := 182) (x := some (182, 0)) fl_X12_231 dX12_isRight_129 (hx := ry_12_82 _ _) (K := ?_)
      refine ev_aload_n 0 dX12_isRight_132 (k := ?_)
      refine ev_dup dX12_isRight_133 (k := ?_)
      refine ev_getI (x := h.1 12 0 83) fl_X12_428 dX12_isRight_134 (K := ?_)
      refine ev_dup_x1 dX12_isRight_137 (k := ?_)
      refine ev_iconst dX12_isRight_138 (k := ?_)
      refine ev_iadd dX12_isRight_139 (k := ?_)
      obtain ⟨h5, eh5, H1⟩ := lt_e H
      clear H
      refine ev_putI j_ok1 fl_X12_428 eh5 dX12_isRight_140 (K := ?_)
      refine ev_aload_n 0 dX12_isRight_143 (k := ?_)
      refine ev_getR (t := 173) (x := some (173, 0)) fl_X12_210 dX12_isRight_144 (hx := ry_12_73 _ _) (K := ?_)
      refine ev_iload 4 dX12_isRight_147 (k := ?_)
      obtain ⟨⟨hi0, hi1⟩, H2⟩ := g_e H1
      clear H1
      refine ev_iaload (k := 173) hi0 hi1 dX12_isRight_149 (hc := ac_173) (hlen := ln_173 _ _) (K := ?_)
      obtain ⟨⟨hi0, hi1⟩, H3⟩ := g_e H2
      clear H2
      obtain ⟨h6, eh6, H4⟩ := lt_e H3
      clear H3
      refine ev_iastore (k := 182) j_ok1 hi0 hi1 eh6 dX12_isRight_150 (hc := ac_182) (hlen := ln_182 _ _) (K := ?_)
      refine ev_aload_n 0 dX12_isRight_151 (k := ?_)
      refine ev_getR (t := 173) (x := some (173, 0)) fl_X12_210 dX12_isRight_152 (hx := ry_12_73 _ _) (K := ?_)
      refine ev_iload 4 dX12_isRight_155 (k := ?_)
      obtain ⟨⟨hi0, hi1⟩, H5⟩ := g_e H4
      clear H4
      refine ev_iaload (k := 173) hi0 hi1 dX12_isRight_157 (hc := ac_173) (hlen := ln_173 _ _) (K := ?_)
      refine ev_iconst dX12_isRight_158 (k := ?_)
      refine ev_icmpne 169 dX12_isRight_159 (kt := fun hc => ?_) (kf := fun hc => ?_)
      · replace H5 := if_ne hc H5
        refine ev_iconst dX12_isRight_169 (k := ?_)
        refine ev_lv [0, 1, 3, 4] [(0, .inr (.inr (some (12, 0)))), (4, .inl (l4)), (6, .inl (l6)), (7, .inl (l7))] (k := ?_)
        exact E12_isRight_170 k89 hk89 l4 l6 l7 0 h6 _ H5
      · replace H5 := if_pe hc H5
        refine ev_iload 2 dX12_isRight_162 (k := ?_)
        refine ev_iconst dX12_isRight_164 (k := ?_)
        refine ev_iadd dX12_isRight_165 (k := ?_)
        refine ev_goto 170 dX12_isRight_166 (k := ?_)
        refine ev_lv [0, 1, 3, 4] [(0, .inr (.inr (some (12, 0)))), (4, .inl (l4)), (6, .inl (l6)), (7, .inl (l7))] (k := ?_)
        exact E12_isRight_170 k89 hk89 l4 l6 l7 (w32 (l5 + 1)) h6 _ H5
    · replace H := if_pe hc H
      refine ev_iload 3 dX12_isRight_102 (k := ?_)
      refine ev_aload_n 0 dX12_isRight_104 (k := ?_)
      refine ev_getR (t := 173) (x := some (173, 0)) fl_X12_210 dX12_isRight_105 (hx := ry_12_73 _ _) (K := ?_)
      refine ev_iload 4 dX12_isRight_108 (k := ?_)
      obtain ⟨⟨hi0, hi1⟩, H1⟩ := g_e H
      clear H
      refine ev_iaload (k := 173) hi0 hi1 dX12_isRight_110 (hc := ac_173) (hlen := ln_173 _ _) (K := ?_)
      refine ev_ifne 118 dX12_isRight_111 (kt := fun hc => ?_) (kf := fun hc => ?_)
      · replace H1 := if_ne hc H1
        refine ev_iconst dX12_isRight_118 (k := ?_)
        refine ev_lv [0, 1, 4] [(0, .inr (.inr (some (12, 0)))), (4, .inl (l4)), (7, .inl (l7))] (k := ?_)
        exact E12_isRight_119 k89 hk89 l4 l7 l6 0 h _ H1
      · replace H1 := if_pe hc H1
        refine ev_iconst dX12_isRight_114 (k := ?_)
        refine ev_goto 119 dX12_isRight_115 (k := ?_)
        refine ev_lv [0, 1, 4] [(0, .inr (.inr (some (12, 0)))), (4, .inl (l4)), (7, .inl (l7))] (k := ?_)
        exact E12_isRight_119 k89 hk89 l4 l7 l6 1 h _ H1
theorem E12_isRight_89 (n : Nat) : ∀ (l4 : Int) (l5 : Int) (l6 : Int) (l7 : Int) (h : JM) (res : (Int × JM)), F12_isRight_89 n l4 l5 l6 l7 h = some res → Ev j_W1 2 0 0 T12_isRight 89 [(0, .inr (.inr (some (12, 0)))), (4, .inl (l4)), (5, .inl (l5)), (6, .inl (l6)), (7, .inl (l7))] [] h (some (.inl res.1)) res.2 := by
  induction n with
  | zero =>
    intro l4 l5 l6 l7 h res H
    cases H
  | succ n ih =>
    intro l4 l5 l6 l7 h res H
    exact E12_isRight_89b (F12_isRight_89 n) ih l4 l5 l6 l7 h res H
set_option maxRecDepth 100000 in
set_option maxHeartbeats 4000000 in
theorem E12_isRight_61 (l2 : Int) (l3 : Int) (l4 : Int) (h : JM) (res : (Int × JM)) (H : F12_isRight_61 l2 l3 l4 h = some res) : Ev j_W1 2 0 0 T12_isRight 61 [(0, .inr (.inr (some (12, 0)))), (2, .inl (l2)), (3, .inl (l3)), (4, .inl (l4))] [] h (some (.inl res.1)) res.2 := by
  unfold F12_isRight_61 at H
  refine ev_iload 3 dX12_isRight_61 (k := ?_)
  refine ev_bipush dX12_isRight_63 (k := ?_)
  refine ev_iadd dX12_isRight_65 (k := ?_)
  refine ev_iload_n 2 dX12_isRight_66 (k := ?_)
  refine ev_icmple 72 dX12_isRight_67 (kt := fun hc => ?_) (kf := fun hc => ?_)
  · replace H := if_pe hc H
    refine ev_aload_n 0 dX12_isRight_72 (k := ?_)
    refine ev_iconst dX12_isRight_73 (k := ?_)
    obtain ⟨h7, eh7, H1⟩ := lt_e H
    clear H
    refine ev_putI j_ok1 fl_X12_428 eh7 dX12_isRight_74 (K := ?_)
    refine ev_iconst dX12_isRight_77 (k := ?_)
    refine ev_istore [(5, .inl (0)), (0, .inr (.inr (some (12, 0)))), (2, .inl (l2)), (3, .inl (l3)), (4, .inl (l4))] dX12_isRight_78 (k := ?_)
    refine ev_iconst dX12_isRight_80 (k := ?_)
    refine ev_istore [(6, .inl (1)), (5, .inl (0)), (0, .inr (.inr (some (12, 0)))), (2, .inl (l2)), (3, .inl (l3)), (4, .inl (l4))] dX12_isRight_81 (k := ?_)
    refine ev_iload_n 3 dX12_isRight_83 (k := ?_)
    refine ev_bipush dX12_isRight_84 (k := ?_)
    refine ev_iadd dX12_isRight_86 (k := ?_)
    obtain ⟨x8, ex8, H2⟩ := lt_e H1
    clear H1
    refine ev_topI ex8 ?_
    refine ev_istore [(7, .inl (x8)), (6, .inl (1)), (5, .inl (0)), (0, .inr (.inr (some (12, 0)))), (2, .inl (l2)), (3, .inl (l3)), (4, .inl (l4))] dX12_isRight_87 (k := ?_)
    refine ev_lv [3, 6, 2, 1, 0] [(0, .inr (.inr (some (12, 0)))), (4, .inl (l4)), (5, .inl (0)), (6, .inl (1)), (7, .inl (x8))] (k := ?_)
    exact E12_isRight_89 j_fu l4 0 1 x8 h7 _ H2
  · replace H := if_ne hc H
    refine ev_iconst dX12_isRight_70 (k := ?_)
    cases H
    exact ev_zreturn (Or.inl rfl) dX12_isRight_71
set_option maxRecDepth 100000 in
set_option maxHeartbeats 4000000 in
theorem E12_isRight_34b (k34 : Int → Int → Int → JM → Option (Int × JM)) (hk34 : ∀ (l2 : Int) (l3 : Int) (l4 : Int) (h : JM) (res : (Int × JM)), k34 l2 l3 l4 h = some res → Ev j_W1 2 0 0 T12_isRight 34 [(0, .inr (.inr (some (12, 0)))), (2, .inl (l2)), (3, .inl (l3)), (4, .inl (l4))] [] h (some (.inl res.1)) res.2) (l2 : Int) (l3 : Int) (l4 : Int) (h : JM) (res : (Int × JM)) (H : F12_isRight_34b k34 l2 l3 l4 h = some res) : Ev j_W1 2 0 0 T12_isRight 34 [(0, .inr (.inr (some (12, 0)))), (2, .inl (l2)), (3, .inl (l3)), (4, .inl (l4))] [] h (some (.inl res.1)) res.2 := by
  unfold F12_isRight_34b at H
  refine ev_iload 3 dX12_isRight_34 (k := ?_)
  refine ev_bipush dX12_isRight_36 (k := ?_)
  refine ev_iadd dX12_isRight_38 (k := ?_)
  refine ev_iload_n 2 dX12_isRight_39 (k := ?_)
  refine ev_icmpgt 61 dX12_isRight_40 (kt := fun hc => ?_) (kf := fun hc => ?_)
  · replace H := if_pe hc H
    exact E12_isRight_61 l2 l3 l4 h _ H
  · replace H := if_ne hc H
    refine ev_aload_n 0 dX12_isRight_43 (k := ?_)
    refine ev_getR (t := 173) (x := some (173, 0)) fl_X12_210 dX12_isRight_44 (hx := ry_12_73 _ _) (K := ?_)
    refine ev_iload 3 dX12_isRight_47 (k := ?_)
    obtain ⟨q9, hq, H1⟩ := bd_e H
    clear H
    refine ev_callS (mc := 0) (ms := 0) (st := []) (C12_isFlag hq) md_X12_isFlag ss_X12_isFlag ml_X12_446 dX12_isRight_49 _ (by decide) (K := ?_)
    refine ev_ifne 61 dX12_isRight_52 (kt := fun hc => ?_) (kf := fun hc => ?_)
    · replace H1 := if_ne hc H1
      exact E12_isRight_61 l2 l3 l4 q9.2 _ H1
    · replace H1 := if_pe hc H1
      refine ev_iinc 3 [(4, .inl (w32 (l4 + 1))), (0, .inr (.inr (some (12, 0)))), (2, .inl (l2)), (3, .inl (l3))] dX12_isRight_55 (k := ?_)
      refine ev_goto 34 dX12_isRight_58 (k := ?_)
      refine ev_lv [1, 2, 3, 0] [(0, .inr (.inr (some (12, 0)))), (2, .inl (l2)), (3, .inl (l3)), (4, .inl (w32 (l4 + 1)))] (k := ?_)
      exact hk34 l2 l3 (w32 (l4 + 1)) q9.2 _ H1
theorem E12_isRight_34 (n : Nat) : ∀ (l2 : Int) (l3 : Int) (l4 : Int) (h : JM) (res : (Int × JM)), F12_isRight_34 n l2 l3 l4 h = some res → Ev j_W1 2 0 0 T12_isRight 34 [(0, .inr (.inr (some (12, 0)))), (2, .inl (l2)), (3, .inl (l3)), (4, .inl (l4))] [] h (some (.inl res.1)) res.2 := by
  induction n with
  | zero =>
    intro l2 l3 l4 h res H
    cases H
  | succ n ih =>
    intro l2 l3 l4 h res H
    exact E12_isRight_34b (F12_isRight_34 n) ih l2 l3 l4 h res H
set_option maxRecDepth 100000 in
set_option maxHeartbeats 4000000 in
theorem C12_isRight {l1 : Int} {h : JM} {res : (Int × JM)} (H : F12_isRight l1 h = some res) : Cn j_W1 2 0 0 yX12_isRight cX12_isRight 8 (some .boolean) [.inr (.inr (some (12, 0))), .inl (l1)] h (some (.inl res.1)) res.2 := by
  refine Cn.by (own := RX12) (b := false) [(0, .inr (.inr (some (12, 0)))), (1, .inl (l1))] rfl (fun z => by cases z) (by decide +kernel) (K := ?_)
  unfold F12_isRight at H
  refine ev_sipush dX12_isRight_0 (k := ?_)
  refine ev_iload_n 1 dX12_isRight_3 (k := ?_)
  refine ev_imul dX12_isRight_4 (k := ?_)
  obtain ⟨x10, ex10, H1⟩ := lt_e H
  clear H
  refine ev_topI ex10 ?_
  refine ev_istore_n [(2, .inl (x10)), (0, .inr (.inr (some (12, 0)))), (1, .inl (l1))] dX12_isRight_5 (k := ?_)
  refine ev_iload_n 0 dX12_isRight_6 (k := ?_)
  refine ev_aload_n 1 dX12_isRight_7 (k := ?_)
  refine ev_getR (t := 174) (x := some (174, 0)) fl_X12_213 dX12_isRight_8 (hx := ry_12_74 _ _) (K := ?_)
  refine ev_iload_n 2 dX12_isRight_11 (k := ?_)
  obtain ⟨⟨hi0, hi1⟩, H2⟩ := g_e H1
  clear H1
  refine ev_iaload (k := 174) hi0 hi1 dX12_isRight_12 (hc := ac_174) (hlen := ln_174 _ _) (K := ?_)
  refine ev_iadd dX12_isRight_13 (k := ?_)
  obtain ⟨x11, ex11, H3⟩ := lt_e H2
  clear H2
  refine ev_topI ex11 ?_
  refine ev_istore_n [(3, .inl (x11)), (2, .inl (x10)), (0, .inr (.inr (some (12, 0)))), (1, .inl (l1))] dX12_isRight_14 (k := ?_)
  refine ev_aload_n 2 dX12_isRight_15 (k := ?_)
  refine ev_getR (t := 173) (x := some (173, 0)) fl_X12_210 dX12_isRight_16 (hx := ry_12_73 _ _) (K := ?_)
  refine ev_iload_n 1 dX12_isRight_19 (k := ?_)
  obtain ⟨q12, hq, H4⟩ := bd_e H3
  clear H3
  refine ev_callS (mc := 0) (ms := 0) (st := []) (C12_isFlag hq) md_X12_isFlag ss_X12_isFlag ml_X12_446 dX12_isRight_20 _ (by decide) (K := ?_)
  refine ev_ifne 28 dX12_isRight_23 (kt := fun hc => ?_) (kf := fun hc => ?_)
  · replace H4 := if_ne hc H4
    refine ev_iload_n 1 dX12_isRight_28 (k := ?_)
    refine ev_bipush dX12_isRight_29 (k := ?_)
    refine ev_iadd dX12_isRight_31 (k := ?_)
    obtain ⟨x13, ex13, H5⟩ := lt_e H4
    clear H4
    refine ev_topI ex13 ?_
    refine ev_istore [(4, .inl (x13)), (3, .inl (x11)), (2, .inl (x10)), (0, .inr (.inr (some (12, 0)))), (1, .inl (l1))] dX12_isRight_32 (k := ?_)
    refine ev_lv [3, 2, 1, 0] [(0, .inr (.inr (some (12, 0)))), (2, .inl (x10)), (3, .inl (x11)), (4, .inl (x13))] (k := ?_)
    exact E12_isRight_34 j_fu x10 x11 x13 q12.2 _ H5
  · replace H4 := if_pe hc H4
    refine ev_iconst dX12_isRight_26 (k := ?_)
    cases H4
    exact ev_zreturn (Or.inl rfl) dX12_isRight_27
-- X12_key
abbrev T12_key : JT := (RX12, cX12_key, 2, some .int, false)
set_option maxRecDepth 100000 in
set_option maxHeartbeats 4000000 in
theorem C12_key {l1 : Int} {h : JM} {res : (Int × JM)} (H : F12_key l1 h = some res) : Cn j_W1 2 0 0 yX12_key cX12_key 2 (some .int) [.inr (.inr (some (12, 0))), .inl (l1)] h (some (.inl res.1)) res.2 := by
  refine Cn.by (own := RX12) (b := false) [(0, .inr (.inr (some (12, 0)))), (1, .inl (l1))] rfl (fun z => by cases z) (by decide +kernel) (K := ?_)
  unfold F12_key at H
  refine ev_iload_n 1 dX12_key_0 (k := ?_)
  refine ev_i2l dX12_key_1 (k := ?_)
  refine ev_lconst (v := 0) dX12_key_2 (k := ?_)
  refine ev_ldc2 (n := 11) cl_X12_266 dX12_key_3 (k := ?_)
  obtain ⟨q1, hq, H1⟩ := bd_e H
  clear H
  refine ev_callS (mc := 0) (ms := 0) (st := []) (C12_in hq) md_X12_in ss_X12_in ml_X12_268 dX12_key_6 _ (by decide) (K := ?_)
  refine ev_ifne 15 dX12_key_9 (kt := fun hc => ?_) (kf := fun hc => ?_)
  · replace H1 := if_ne hc H1
    refine ev_aload_n 0 dX12_key_15 (k := ?_)
    refine ev_getI (x := q1.2.1 12 0 4) fl_X12_272 dX12_key_16 (K := ?_)
    refine ev_bipush dX12_key_19 (k := ?_)
    refine ev_icmpne 27 dX12_key_21 (kt := fun hc => ?_) (kf := fun hc => ?_)
    · replace H1 := if_ne hc H1
      refine ev_aload_n 0 dX12_key_27 (k := ?_)
      refine ev_getR (t := 103) (x := some (103, 0)) fl_X12_9 dX12_key_28 (hx := ry_12_3 _ _) (K := ?_)
      refine ev_aload_n 0 dX12_key_31 (k := ?_)
      refine ev_dup dX12_key_32 (k := ?_)
      refine ev_getI (x := q1.2.1 12 0 4) fl_X12_272 dX12_key_33 (K := ?_)
      refine ev_dup_x1 dX12_key_36 (k := ?_)
      refine ev_iconst dX12_key_37 (k := ?_)
      refine ev_iadd dX12_key_38 (k := ?_)
      obtain ⟨h2, eh2, H2⟩ := lt_e H1
      clear H1
      refine ev_putI j_ok1 fl_X12_272 eh2 dX12_key_39 (K := ?_)
      refine ev_iload_n 1 dX12_key_42 (k := ?_)
      obtain ⟨⟨hi0, hi1⟩, H3⟩ := g_e H2
      clear H2
      obtain ⟨h3, eh3, H4⟩ := lt_e H3
      clear H3
      refine ev_iastore (k := 103) j_ok1 hi0 hi1 eh3 dX12_key_43 (hc := ac_103) (hlen := ln_103 _ _) (K := ?_)
      refine ev_aload_n 0 dX12_key_44 (k := ?_)
      refine ev_getI (x := h3.1 12 0 4) fl_X12_272 dX12_key_45 (K := ?_)
      cases H4
      exact ev_ireturn dX12_key_48
    · replace H1 := if_pe hc H1
      refine ev_bipush dX12_key_24 (k := ?_)
      cases H1
      exact ev_ireturn dX12_key_26
  · replace H1 := if_pe hc H1
    refine ev_bipush dX12_key_12 (k := ?_)
    cases H1
    exact ev_ireturn dX12_key_14
-- X12_keyComes
abbrev T12_keyComes : JT := (RX12, cX12_keyComes, 5, none, false)
set_option maxRecDepth 100000 in
set_option maxHeartbeats 4000000 in
theorem C12_keyComes {l1 : Int} {l2 : Int} {h : JM} {res : JM} (H : F12_keyComes l1 l2 h = some res) : Cn j_W1 89 0 0 yX12_keyComes cX12_keyComes 5 none [.inr (.inr (some (12, 0))), .inl (l1), .inl (l2)] h none res := by
  refine Cn.by (own := RX12) (b := false) [(0, .inr (.inr (some (12, 0)))), (1, .inl (l1)), (2, .inl (l2))] rfl (fun z => by cases z) (by decide +kernel) (K := ?_)
  unfold F12_keyComes at H
  refine ev_aload_n 0 dX12_keyComes_0 (k := ?_)
  refine ev_getR (t := 119) (x := some (119, 0)) fl_X12_56 dX12_keyComes_1 (hx := ry_12_19 _ _) (K := ?_)
  refine ev_iload_n 1 dX12_keyComes_4 (k := ?_)
  obtain ⟨⟨hi0, hi1⟩, H1⟩ := g_e H
  clear H
  refine ev_iaload (k := 119) hi0 hi1 dX12_keyComes_5 (hc := ac_119) (hlen := ln_119 _ _) (K := ?_)
  obtain ⟨x1, ex1, H2⟩ := lt_e H1
  clear H1
  refine ev_topI ex1 ?_
  refine ev_istore_n [(3, .inl (x1)), (0, .inr (.inr (some (12, 0)))), (1, .inl (l1)), (2, .inl (l2))] dX12_keyComes_6 (k := ?_)
  refine ev_iload_n 0 dX12_keyComes_7 (k := ?_)
  refine ev_iconst dX12_keyComes_8 (k := ?_)
  refine ev_icmpeq 21 dX12_keyComes_9 (kt := fun hc => ?_) (kf := fun hc => ?_)
  · replace H2 := if_pe hc H2
    cases H2
    exact ev_return dX12_keyComes_21
  · replace H2 := if_ne hc H2
    refine ev_aload_n 1 dX12_keyComes_12 (k := ?_)
    refine ev_getR (t := 133) (x := some (133, 0)) fl_X12_95 dX12_keyComes_13 (hx := ry_12_33 _ _) (K := ?_)
    refine ev_iload_n 0 dX12_keyComes_16 (k := ?_)
    obtain ⟨⟨hi0, hi1⟩, H3⟩ := g_e H2
    clear H2
    refine ev_iaload (k := 133) hi0 hi1 dX12_keyComes_17 (hc := ac_133) (hlen := ln_133 _ _) (K := ?_)
    refine ev_ifeq 22 dX12_keyComes_18 (kt := fun hc => ?_) (kf := fun hc => ?_)
    · replace H3 := if_pe hc H3
      refine ev_aload_n 1 dX12_keyComes_22 (k := ?_)
      refine ev_getR (t := 139) (x := some (139, 0)) fl_X12_113 dX12_keyComes_23 (hx := ry_12_39 _ _) (K := ?_)
      refine ev_bipush dX12_keyComes_26 (k := ?_)
      refine ev_iload_n 0 dX12_keyComes_28 (k := ?_)
      refine ev_imul dX12_keyComes_29 (k := ?_)
      refine ev_aload_n 1 dX12_keyComes_30 (k := ?_)
      refine ev_getR (t := 140) (x := some (140, 0)) fl_X12_116 dX12_keyComes_31 (hx := ry_12_40 _ _) (K := ?_)
      refine ev_iload_n 0 dX12_keyComes_34 (k := ?_)
      refine ev_dup2 dX12_keyComes_35 (k := ?_)
      obtain ⟨⟨hi0, hi1⟩, H4⟩ := g_e H3
      clear H3
      refine ev_iaload (k := 140) hi0 hi1 dX12_keyComes_36 (hc := ac_140) (hlen := ln_140 _ _) (K := ?_)
      refine ev_dup_x2 dX12_keyComes_37 (k := ?_)
      refine ev_iconst dX12_keyComes_38 (k := ?_)
      refine ev_iadd dX12_keyComes_39 (k := ?_)
      obtain ⟨⟨hi0, hi1⟩, H5⟩ := g_e H4
      clear H4
      obtain ⟨h2, eh2, H6⟩ := lt_e H5
      clear H5
      refine ev_iastore (k := 140) j_ok1 hi0 hi1 eh2 dX12_keyComes_40 (hc := ac_140) (hlen := ln_140 _ _) (K := ?_)
      refine ev_iadd dX12_keyComes_41 (k := ?_)
      refine ev_iload_n 3 dX12_keyComes_42 (k := ?_)
      obtain ⟨⟨hi0, hi1⟩, H7⟩ := g_e H6
      clear H6
      obtain ⟨h3, eh3, H8⟩ := lt_e H7
      clear H7
      refine ev_iastore (k := 139) j_ok1 hi0 hi1 eh3 dX12_keyComes_43 (hc := ac_139) (hlen := ln_139 _ _) (K := ?_)
      refine ev_aload_n 1 dX12_keyComes_44 (k := ?_)
      refine ev_getR (t := 145) (x := some (145, 0)) fl_X12_131 dX12_keyComes_45 (hx := ry_12_45 _ _) (K := ?_)
      refine ev_iload_n 0 dX12_keyComes_48 (k := ?_)
      refine ev_aload_n 1 dX12_keyComes_49 (k := ?_)
      refine ev_getI (x := h3.1 12 0 2) fl_X12_285 dX12_keyComes_50 (K := ?_)
      obtain ⟨⟨hi0, hi1⟩, H9⟩ := g_e H8
      clear H8
      obtain ⟨h4, eh4, H10⟩ := lt_e H9
      clear H9
      refine ev_iastore (k := 145) j_ok1 hi0 hi1 eh4 dX12_keyComes_53 (hc := ac_145) (hlen := ln_145 _ _) (K := ?_)
      refine ev_aload_n 1 dX12_keyComes_54 (k := ?_)
      refine ev_iload_n 0 dX12_keyComes_55 (k := ?_)
      obtain ⟨q5, hq, H11⟩ := bd_e H10
      clear H10
      refine ev_callV (mc := 0) (ms := 0) (st := []) (C12_analysis hq) md_X12_analysis im_X12_analysis se_X12_analysis ml_X12_327 dX12_keyComes_56 _ (by decide) (K := ?_)
      refine ev_istore [(4, .inl (q5.1)), (3, .inl (x1)), (0, .inr (.inr (some (12, 0)))), (1, .inl (l1)), (2, .inl (l2))] dX12_keyComes_59 (k := ?_)
      refine ev_iload 0 dX12_keyComes_61 (k := ?_)
      refine ev_bipush dX12_keyComes_63 (k := ?_)
      refine ev_icmpne 78 dX12_keyComes_65 (kt := fun hc => ?_) (kf := fun hc => ?_)
      · replace H11 := if_ne hc H11
        refine ev_iload 0 dX12_keyComes_78 (k := ?_)
        refine ev_iconst dX12_keyComes_80 (k := ?_)
        refine ev_icmpeq 91 dX12_keyComes_81 (kt := fun hc => ?_) (kf := fun hc => ?_)
        · replace H11 := if_pe hc H11
          cases H11
          exact ev_return dX12_keyComes_91
        · replace H11 := if_ne hc H11
          refine ev_aload_n 2 dX12_keyComes_84 (k := ?_)
          refine ev_iload_n 1 dX12_keyComes_85 (k := ?_)
          refine ev_iload 0 dX12_keyComes_86 (k := ?_)
          obtain ⟨h6, hq, H12⟩ := bd_e H11
          clear H11
          refine ev_callV (mc := 0) (ms := 0) (st := []) (C12_placesN 8 _ _ _ _ hq) md_X12_places im_X12_places se_X12_places ml_X12_331 dX12_keyComes_88 _ (by decide) (K := ?_)
          cases H12
          exact ev_return dX12_keyComes_91
      · replace H11 := if_pe hc H11
        refine ev_aload_n 2 dX12_keyComes_68 (k := ?_)
        refine ev_iload_n 1 dX12_keyComes_69 (k := ?_)
        refine ev_iconst dX12_keyComes_70 (k := ?_)
        refine ev_iconst dX12_keyComes_71 (k := ?_)
        obtain ⟨h7, hq, H12⟩ := bd_e H11
        clear H11
        refine ev_callV (mc := 0) (ms := 0) (st := []) (C12_over hq) md_X12_over im_X12_over se_X12_over ml_X12_323 dX12_keyComes_72 _ (by decide) (K := ?_)
        refine ev_goto 91 dX12_keyComes_75 (k := ?_)
        cases H12
        exact ev_return dX12_keyComes_91
    · replace H3 := if_ne hc H3
      cases H3
      exact ev_return dX12_keyComes_21
-- X12_keyless
abbrev T12_keyless : JT := (RX12, cX12_keyless, 2, some .int, false)
set_option maxRecDepth 100000 in
set_option maxHeartbeats 4000000 in
theorem C12_keyless {h : JM} {res : (Int × JM)} (H : F12_keyless h = some res) : Cn j_W1 1 0 0 yX12_keyless cX12_keyless 2 (some .int) [.inr (.inr (some (12, 0)))] h (some (.inl res.1)) res.2 := by
  refine Cn.by (own := RX12) (b := false) [(0, .inr (.inr (some (12, 0))))] rfl (fun z => by cases z) (by decide +kernel) (K := ?_)
  unfold F12_keyless at H
  refine ev_aload_n 0 dX12_keyless_0 (k := ?_)
  refine ev_getI (x := h.1 12 0 4) fl_X12_272 dX12_keyless_1 (K := ?_)
  obtain ⟨x1, ex1, H1⟩ := lt_e H
  clear H
  refine ev_topI ex1 ?_
  refine ev_istore_n [(1, .inl (x1)), (0, .inr (.inr (some (12, 0))))] dX12_keyless_4 (k := ?_)
  refine ev_aload_n 1 dX12_keyless_5 (k := ?_)
  refine ev_iconst dX12_keyless_6 (k := ?_)
  obtain ⟨h2, eh2, H2⟩ := lt_e H1
  clear H1
  refine ev_putI j_ok1 fl_X12_272 eh2 dX12_keyless_7 (K := ?_)
  refine ev_iload_n 0 dX12_keyless_10 (k := ?_)
  cases H2
  exact ev_ireturn dX12_keyless_11
-- X12_lifts
abbrev T12_lifts : JT := (RX12, cX12_lifts, 3, none, false)
set_option maxRecDepth 100000 in
set_option maxHeartbeats 4000000 in
theorem C12_lifts {l1 : Int} {h : JM} {res : JM} (H : F12_lifts l1 h = some res) : Cn j_W1 6 0 0 yX12_lifts cX12_lifts 3 none [.inr (.inr (some (12, 0))), .inl (l1)] h none res := by
  refine Cn.by (own := RX12) (b := false) [(0, .inr (.inr (some (12, 0)))), (1, .inl (l1))] rfl (fun z => by cases z) (by decide +kernel) (K := ?_)
  unfold F12_lifts at H
  refine ev_aload_n 0 dX12_lifts_0 (k := ?_)
  refine ev_getR (t := 112) (x := some (112, 0)) fl_X12_34 dX12_lifts_1 (hx := ry_12_12 _ _) (K := ?_)
  refine ev_iload_n 1 dX12_lifts_4 (k := ?_)
  refine ev_iconst dX12_lifts_5 (k := ?_)
  obtain ⟨⟨hi0, hi1⟩, H1⟩ := g_e H
  clear H
  obtain ⟨h1, eh1, H2⟩ := lt_e H1
  clear H1
  refine ev_zastore (k := 112) j_ok1 hi0 hi1 (Or.inr rfl) eh1 dX12_lifts_6 (hc := ac_112) (hlen := ln_112 _ _) (K := ?_)
  refine ev_aload_n 0 dX12_lifts_7 (k := ?_)
  refine ev_iload_n 1 dX12_lifts_8 (k := ?_)
  obtain ⟨h2, hq, H3⟩ := bd_e H2
  clear H2
  refine ev_callV (mc := 0) (ms := 0) (st := []) (C12_clears hq) md_X12_clears im_X12_clears se_X12_clears ml_X12_314 dX12_lifts_9 _ (by decide) (K := ?_)
  refine ev_aload_n 0 dX12_lifts_12 (k := ?_)
  refine ev_getR (t := 124) (x := some (124, 0)) fl_X12_71 dX12_lifts_13 (hx := ry_12_24 _ _) (K := ?_)
  refine ev_iload_n 1 dX12_lifts_16 (k := ?_)
  refine ev_iconst dX12_lifts_17 (k := ?_)
  obtain ⟨⟨hi0, hi1⟩, H4⟩ := g_e H3
  clear H3
  obtain ⟨h3, eh3, H5⟩ := lt_e H4
  clear H4
  refine ev_zastore (k := 124) j_ok1 hi0 hi1 (Or.inl rfl) eh3 dX12_lifts_18 (hc := ac_124) (hlen := ln_124 _ _) (K := ?_)
  refine ev_aload_n 0 dX12_lifts_19 (k := ?_)
  refine ev_getR (t := 121) (x := some (121, 0)) fl_X12_62 dX12_lifts_20 (hx := ry_12_21 _ _) (K := ?_)
  refine ev_iload_n 1 dX12_lifts_23 (k := ?_)
  obtain ⟨⟨hi0, hi1⟩, H6⟩ := g_e H5
  clear H5
  refine ev_iaload (k := 121) hi0 hi1 dX12_lifts_24 (hc := ac_121) (hlen := ln_121 _ _) (K := ?_)
  obtain ⟨x4, ex4, H7⟩ := lt_e H6
  clear H6
  refine ev_topI ex4 ?_
  refine ev_istore_n [(2, .inl (x4)), (0, .inr (.inr (some (12, 0)))), (1, .inl (l1))] dX12_lifts_25 (k := ?_)
  refine ev_aload_n 1 dX12_lifts_26 (k := ?_)
  refine ev_getR (t := 121) (x := some (121, 0)) fl_X12_62 dX12_lifts_27 (hx := ry_12_21 _ _) (K := ?_)
  refine ev_iload_n 2 dX12_lifts_30 (k := ?_)
  refine ev_iconst dX12_lifts_31 (k := ?_)
  obtain ⟨⟨hi0, hi1⟩, H8⟩ := g_e H7
  clear H7
  obtain ⟨h5, eh5, H9⟩ := lt_e H8
  clear H8
  refine ev_iastore (k := 121) j_ok1 hi0 hi1 eh5 dX12_lifts_32 (hc := ac_121) (hlen := ln_121 _ _) (K := ?_)
  refine ev_iload_n 0 dX12_lifts_33 (k := ?_)
  refine ev_iconst dX12_lifts_34 (k := ?_)
  refine ev_icmpne 56 dX12_lifts_35 (kt := fun hc => ?_) (kf := fun hc => ?_)
  · replace H9 := if_ne hc H9
    refine ev_aload_n 1 dX12_lifts_56 (k := ?_)
    refine ev_getR (t := 119) (x := some (119, 0)) fl_X12_56 dX12_lifts_57 (hx := ry_12_19 _ _) (K := ?_)
    refine ev_iload_n 2 dX12_lifts_60 (k := ?_)
    refine ev_iload_n 0 dX12_lifts_61 (k := ?_)
    obtain ⟨⟨hi0, hi1⟩, H10⟩ := g_e H9
    clear H9
    obtain ⟨h6, eh6, H11⟩ := lt_e H10
    clear H10
    refine ev_iastore (k := 119) j_ok1 hi0 hi1 eh6 dX12_lifts_62 (hc := ac_119) (hlen := ln_119 _ _) (K := ?_)
    refine ev_aload_n 1 dX12_lifts_63 (k := ?_)
    refine ev_iload_n 0 dX12_lifts_64 (k := ?_)
    obtain ⟨h7, hq, H12⟩ := bd_e H11
    clear H11
    refine ev_callV (mc := 0) (ms := 0) (st := []) (C12_answered hq) md_X12_answered im_X12_answered se_X12_answered ml_X12_320 dX12_lifts_65 _ (by decide) (K := ?_)
    cases H12
    exact ev_return dX12_lifts_68
  · replace H9 := if_pe hc H9
    refine ev_aload_n 1 dX12_lifts_38 (k := ?_)
    refine ev_getR (t := 119) (x := some (119, 0)) fl_X12_56 dX12_lifts_39 (hx := ry_12_19 _ _) (K := ?_)
    refine ev_iload_n 2 dX12_lifts_42 (k := ?_)
    refine ev_aload_n 1 dX12_lifts_43 (k := ?_)
    refine ev_iload_n 2 dX12_lifts_44 (k := ?_)
    refine ev_bipush dX12_lifts_45 (k := ?_)
    refine ev_idiv dX12_lifts_47 (by decide) (k := ?_)
    refine ev_iload_n 2 dX12_lifts_48 (k := ?_)
    obtain ⟨q8, hq, H10⟩ := bd_e H9
    clear H9
    refine ev_callV (mc := 0) (ms := 0) (st := [.inl (l1), .inr (.inr (some (119, 0)))]) (C12_makes hq) md_X12_makes im_X12_makes se_X12_makes ml_X12_317 dX12_lifts_49 _ (by decide) (K := ?_)
    obtain ⟨⟨hi0, hi1⟩, H11⟩ := g_e H10
    clear H10
    obtain ⟨h9, eh9, H12⟩ := lt_e H11
    clear H11
    refine ev_iastore (k := 119) j_ok1 hi0 hi1 eh9 dX12_lifts_52 (hc := ac_119) (hlen := ln_119 _ _) (K := ?_)
    refine ev_goto 68 dX12_lifts_53 (k := ?_)
    cases H12
    exact ev_return dX12_lifts_68
-- X12_sounds
abbrev T12_sounds : JT := (RX12, cX12_sounds, 3, some .int, false)
set_option maxRecDepth 100000 in
set_option maxHeartbeats 4000000 in
theorem E12_sounds_136 (h : JM) (res : (Int × JM)) (H : F12_sounds_136 h = some res) : Ev j_W1 1 0 0 T12_sounds 136 [] [] h (some (.inl res.1)) res.2 := by
  unfold F12_sounds_136 at H
  refine ev_bipush dX12_sounds_136 (k := ?_)
  cases H
  exact ev_ireturn dX12_sounds_138
set_option maxRecDepth 100000 in
set_option maxHeartbeats 4000000 in
theorem C12_sounds {l1 : Int} {h : JM} {res : (Int × JM)} (H : F12_sounds l1 h = some res) : Cn j_W1 1 0 0 yX12_sounds cX12_sounds 3 (some .int) [.inr (.inr (some (12, 0))), .inl (l1)] h (some (.inl res.1)) res.2 := by
  refine Cn.by (own := RX12) (b := false) [(0, .inr (.inr (some (12, 0)))), (1, .inl (l1))] rfl (fun z => by cases z) (by decide +kernel) (K := ?_)
  unfold F12_sounds at H
  refine ev_aload_n 0 dX12_sounds_0 (k := ?_)
  refine ev_getR (t := 112) (x := some (112, 0)) fl_X12_34 dX12_sounds_1 (hx := ry_12_12 _ _) (K := ?_)
  refine ev_iload_n 1 dX12_sounds_4 (k := ?_)
  obtain ⟨⟨hi0, hi1⟩, H1⟩ := g_e H
  clear H
  refine ev_zaload (k := 112) hi0 hi1 dX12_sounds_5 (hc := ac_112) (hlen := ln_112 _ _) (K := ?_)
  refine ev_ifne 25 dX12_sounds_6 (kt := fun hc => ?_) (kf := fun hc => ?_)
  · replace H1 := if_ne hc H1
    refine ev_aload_n 0 dX12_sounds_25 (k := ?_)
    refine ev_getR (t := 119) (x := some (119, 0)) fl_X12_56 dX12_sounds_26 (hx := ry_12_19 _ _) (K := ?_)
    refine ev_iload_n 1 dX12_sounds_29 (k := ?_)
    obtain ⟨⟨hi0, hi1⟩, H2⟩ := g_e H1
    clear H1
    refine ev_iaload (k := 119) hi0 hi1 dX12_sounds_30 (hc := ac_119) (hlen := ln_119 _ _) (K := ?_)
    obtain ⟨x1, ex1, H3⟩ := lt_e H2
    clear H2
    refine ev_topI ex1 ?_
    refine ev_istore_n [(2, .inl (x1)), (0, .inr (.inr (some (12, 0)))), (1, .inl (l1))] dX12_sounds_31 (k := ?_)
    refine ev_iload_n 0 dX12_sounds_32 (k := ?_)
    refine ev_iconst dX12_sounds_33 (k := ?_)
    refine ev_icmpne 44 dX12_sounds_34 (kt := fun hc => ?_) (kf := fun hc => ?_)
    · replace H3 := if_ne hc H3
      refine ev_aload_n 1 dX12_sounds_44 (k := ?_)
      refine ev_getR (t := 133) (x := some (133, 0)) fl_X12_95 dX12_sounds_45 (hx := ry_12_33 _ _) (K := ?_)
      refine ev_iload_n 0 dX12_sounds_48 (k := ?_)
      obtain ⟨⟨hi0, hi1⟩, H4⟩ := g_e H3
      clear H3
      refine ev_iaload (k := 133) hi0 hi1 dX12_sounds_49 (hc := ac_133) (hlen := ln_133 _ _) (K := ?_)
      by_cases hs0 : h.1 133 0 x1 = 0
      · replace H4 := if_pe hs0 H4
        refine ev_tableIn (off := 34) 84 dX12_sounds_50 (by omega) (by omega) (by rw [hs0]; rfl) (k := ?_)
        refine ev_aload_n 1 dX12_sounds_84 (k := ?_)
        refine ev_getR (t := 140) (x := some (140, 0)) fl_X12_116 dX12_sounds_85 (hx := ry_12_40 _ _) (K := ?_)
        refine ev_iload_n 0 dX12_sounds_88 (k := ?_)
        obtain ⟨⟨hi0, hi1⟩, H5⟩ := g_e H4
        clear H4
        refine ev_iaload (k := 140) hi0 hi1 dX12_sounds_89 (hc := ac_140) (hlen := ln_140 _ _) (K := ?_)
        refine ev_ifne 97 dX12_sounds_90 (kt := fun hc => ?_) (kf := fun hc => ?_)
        · replace H5 := if_ne hc H5
          refine ev_iconst dX12_sounds_97 (k := ?_)
          cases H5
          exact ev_ireturn dX12_sounds_98
        · replace H5 := if_pe hc H5
          refine ev_iconst dX12_sounds_93 (k := ?_)
          refine ev_goto 98 dX12_sounds_94 (k := ?_)
          cases H5
          exact ev_ireturn dX12_sounds_98
      · replace H4 := if_ne hs0 H4
        by_cases hs1 : h.1 133 0 x1 = 1
        · replace H4 := if_pe hs1 H4
          refine ev_tableIn (off := 49) 99 dX12_sounds_50 (by omega) (by omega) (by rw [hs1]; rfl) (k := ?_)
          refine ev_iconst dX12_sounds_99 (k := ?_)
          cases H4
          exact ev_ireturn dX12_sounds_100
        · replace H4 := if_ne hs1 H4
          by_cases hs2 : h.1 133 0 x1 = 2
          · replace H4 := if_pe hs2 H4
            refine ev_tableIn (off := 51) 101 dX12_sounds_50 (by omega) (by omega) (by rw [hs2]; rfl) (k := ?_)
            refine ev_iconst dX12_sounds_101 (k := ?_)
            cases H4
            exact ev_ireturn dX12_sounds_102
          · replace H4 := if_ne hs2 H4
            by_cases hs3 : h.1 133 0 x1 = 4
            · replace H4 := if_pe hs3 H4
              refine ev_tableIn (off := 53) 103 dX12_sounds_50 (by omega) (by omega) (by rw [hs3]; rfl) (k := ?_)
              refine ev_bipush dX12_sounds_103 (k := ?_)
              cases H4
              exact ev_ireturn dX12_sounds_105
            · replace H4 := if_ne hs3 H4
              rcases (show (h.1 133 0 x1 < 0 ∨ 4 < h.1 133 0 x1) ∨ (h.1 133 0 x1 = 3) by omega) with hz | hz
              · refine ev_tableOut 106 dX12_sounds_50 hz (k := ?_)
                refine ev_aload_n 1 dX12_sounds_106 (k := ?_)
                refine ev_getR (t := 120) (x := some (120, 0)) fl_X12_59 dX12_sounds_107 (hx := ry_12_20 _ _) (K := ?_)
                refine ev_iload_n 2 dX12_sounds_110 (k := ?_)
                obtain ⟨⟨hi0, hi1⟩, H5⟩ := g_e H4
                clear H4
                refine ev_iaload (k := 120) hi0 hi1 dX12_sounds_111 (hc := ac_120) (hlen := ln_120 _ _) (K := ?_)
                refine ev_iconst dX12_sounds_112 (k := ?_)
                refine ev_icmpeq 136 dX12_sounds_113 (kt := fun hc => ?_) (kf := fun hc => ?_)
                · replace H5 := if_pe hc H5
                  refine ev_lv [] [] (k := ?_)
                  exact E12_sounds_136 h _ H5
                · replace H5 := if_ne hc H5
                  refine ev_aload_n 1 dX12_sounds_116 (k := ?_)
                  refine ev_getR (t := 133) (x := some (133, 0)) fl_X12_95 dX12_sounds_117 (hx := ry_12_33 _ _) (K := ?_)
                  refine ev_aload_n 1 dX12_sounds_120 (k := ?_)
                  refine ev_getR (t := 120) (x := some (120, 0)) fl_X12_59 dX12_sounds_121 (hx := ry_12_20 _ _) (K := ?_)
                  refine ev_iload_n 2 dX12_sounds_124 (k := ?_)
                  obtain ⟨⟨hi0, hi1⟩, H6⟩ := g_e H5
                  clear H5
                  refine ev_iaload (k := 120) hi0 hi1 dX12_sounds_125 (hc := ac_120) (hlen := ln_120 _ _) (K := ?_)
                  obtain ⟨⟨hi0, hi1⟩, H7⟩ := g_e H6
                  clear H6
                  refine ev_iaload (k := 133) hi0 hi1 dX12_sounds_126 (hc := ac_133) (hlen := ln_133 _ _) (K := ?_)
                  refine ev_iconst dX12_sounds_127 (k := ?_)
                  refine ev_icmpne 136 dX12_sounds_128 (kt := fun hc => ?_) (kf := fun hc => ?_)
                  · replace H7 := if_ne hc H7
                    refine ev_lv [] [] (k := ?_)
                    exact E12_sounds_136 h _ H7
                  · replace H7 := if_pe hc H7
                    refine ev_bipush dX12_sounds_131 (k := ?_)
                    refine ev_goto 138 dX12_sounds_133 (k := ?_)
                    cases H7
                    exact ev_ireturn dX12_sounds_138
              · refine ev_tableIn (off := 56) 106 dX12_sounds_50 (by omega) (by omega) (by rw [hz]; rfl) (k := ?_)
                refine ev_aload_n 1 dX12_sounds_106 (k := ?_)
                refine ev_getR (t := 120) (x := some (120, 0)) fl_X12_59 dX12_sounds_107 (hx := ry_12_20 _ _) (K := ?_)
                refine ev_iload_n 2 dX12_sounds_110 (k := ?_)
                obtain ⟨⟨hi0, hi1⟩, H5⟩ := g_e H4
                clear H4
                refine ev_iaload (k := 120) hi0 hi1 dX12_sounds_111 (hc := ac_120) (hlen := ln_120 _ _) (K := ?_)
                refine ev_iconst dX12_sounds_112 (k := ?_)
                refine ev_icmpeq 136 dX12_sounds_113 (kt := fun hc => ?_) (kf := fun hc => ?_)
                · replace H5 := if_pe hc H5
                  refine ev_lv [] [] (k := ?_)
                  exact E12_sounds_136 h _ H5
                · replace H5 := if_ne hc H5
                  refine ev_aload_n 1 dX12_sounds_116 (k := ?_)
                  refine ev_getR (t := 133) (x := some (133, 0)) fl_X12_95 dX12_sounds_117 (hx := ry_12_33 _ _) (K := ?_)
                  refine ev_aload_n 1 dX12_sounds_120 (k := ?_)
                  refine ev_getR (t := 120) (x := some (120, 0)) fl_X12_59 dX12_sounds_121 (hx := ry_12_20 _ _) (K := ?_)
                  refine ev_iload_n 2 dX12_sounds_124 (k := ?_)
                  obtain ⟨⟨hi0, hi1⟩, H6⟩ := g_e H5
                  clear H5
                  refine ev_iaload (k := 120) hi0 hi1 dX12_sounds_125 (hc := ac_120) (hlen := ln_120 _ _) (K := ?_)
                  obtain ⟨⟨hi0, hi1⟩, H7⟩ := g_e H6
                  clear H6
                  refine ev_iaload (k := 133) hi0 hi1 dX12_sounds_126 (hc := ac_133) (hlen := ln_133 _ _) (K := ?_)
                  refine ev_iconst dX12_sounds_127 (k := ?_)
                  refine ev_icmpne 136 dX12_sounds_128 (kt := fun hc => ?_) (kf := fun hc => ?_)
                  · replace H7 := if_ne hc H7
                    refine ev_lv [] [] (k := ?_)
                    exact E12_sounds_136 h _ H7
                  · replace H7 := if_pe hc H7
                    refine ev_bipush dX12_sounds_131 (k := ?_)
                    refine ev_goto 138 dX12_sounds_133 (k := ?_)
                    cases H7
                    exact ev_ireturn dX12_sounds_138
    · replace H3 := if_pe hc H3
      refine ev_aload_n 1 dX12_sounds_37 (k := ?_)
      refine ev_getR (t := 123) (x := some (123, 0)) fl_X12_68 dX12_sounds_38 (hx := ry_12_23 _ _) (K := ?_)
      refine ev_iload_n 2 dX12_sounds_41 (k := ?_)
      obtain ⟨⟨hi0, hi1⟩, H4⟩ := g_e H3
      clear H3
      refine ev_iaload (k := 123) hi0 hi1 dX12_sounds_42 (hc := ac_123) (hlen := ln_123 _ _) (K := ?_)
      cases H4
      exact ev_ireturn dX12_sounds_43
  · replace H1 := if_pe hc H1
    refine ev_aload_n 0 dX12_sounds_9 (k := ?_)
    refine ev_getR (t := 121) (x := some (121, 0)) fl_X12_62 dX12_sounds_10 (hx := ry_12_21 _ _) (K := ?_)
    refine ev_iload_n 1 dX12_sounds_13 (k := ?_)
    obtain ⟨⟨hi0, hi1⟩, H2⟩ := g_e H1
    clear H1
    refine ev_iaload (k := 121) hi0 hi1 dX12_sounds_14 (hc := ac_121) (hlen := ln_121 _ _) (K := ?_)
    refine ev_iconst dX12_sounds_15 (k := ?_)
    refine ev_icmpne 23 dX12_sounds_16 (kt := fun hc => ?_) (kf := fun hc => ?_)
    · replace H2 := if_ne hc H2
      refine ev_iconst dX12_sounds_23 (k := ?_)
      cases H2
      exact ev_ireturn dX12_sounds_24
    · replace H2 := if_pe hc H2
      refine ev_iconst dX12_sounds_19 (k := ?_)
      refine ev_goto 24 dX12_sounds_20 (k := ?_)
      cases H2
      exact ev_ireturn dX12_sounds_24
