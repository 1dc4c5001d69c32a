-- X12_inRoomOthers
abbrev T12_inRoomOthers : JT := (RX12, cX12_inRoomOthers, 4, some .int, false)
set_option maxRecDepth 100000 in
set_option maxHeartbeats 4000000 in
theorem E12_inRoomOthers_69 (k4 : Int → Int → Int → JM → Option (Int × JM)) (hk4 : ∀ (l1 : Int) (l2 : Int) (l3 : Int) (h : JM) (res : (Int × JM)), k4 l1 l2 l3 h = some res → Ev j_W1 5 0 0 T12_inRoomOthers 4 [(0, .inr (.inr (some (12, 0)))), (1, .inl (l1)), (2, .inl (l2)), (3, .inl (l3))] [] h (some (.inl res.1)) res.2) (l1 : Int) (l2 : Int) (l3 : Int) (h : JM) (res : (Int × JM)) (H : F12_inRoomOthers_69 k4 l1 l2 l3 h = some res) : Ev j_W1 5 0 0 T12_inRoomOthers 69 [(0, .inr (.inr (some (12, 0)))), (1, .inl (l1)), (2, .inl (l2)), (3, .inl (l3))] [] h (some (.inl res.1)) res.2 := by
  unfold F12_inRoomOthers_69 at H
  refine ev_iinc (M := T12_inRoomOthers) (pc := 69) 3 [(3, .inl (w32 (l3 + 1))), (0, .inr (.inr (some (12, 0)))), (1, .inl (l1)), (2, .inl (l2))] dX12_inRoomOthers_69 (k := ?_)
  refine ev_goto (M := T12_inRoomOthers) (pc := 72) 4 dX12_inRoomOthers_72 (k := ?_)
  refine ev_lv [1, 2, 3, 0] [(0, .inr (.inr (some (12, 0)))), (1, .inl (l1)), (2, .inl (l2)), (3, .inl (w32 (l3 + 1)))] (k := ?_)
  exact hk4 l1 l2 (w32 (l3 + 1)) h _ H
set_option maxRecDepth 100000 in
set_option maxHeartbeats 4000000 in
theorem E12_inRoomOthers_4b (k4 : Int → Int → Int → JM → Option (Int × JM)) (hk4 : ∀ (l1 : Int) (l2 : Int) (l3 : Int) (h : JM) (res : (Int × JM)), k4 l1 l2 l3 h = some res → Ev j_W1 5 0 0 T12_inRoomOthers 4 [(0, .inr (.inr (some (12, 0)))), (1, .inl (l1)), (2, .inl (l2)), (3, .inl (l3))] [] h (some (.inl res.1)) res.2) (l1 : Int) (l2 : Int) (l3 : Int) (h : JM) (res : (Int × JM)) (H : F12_inRoomOthers_4b k4 l1 l2 l3 h = some res) : Ev j_W1 5 0 0 T12_inRoomOthers 4 [(0, .inr (.inr (some (12, 0)))), (1, .inl (l1)), (2, .inl (l2)), (3, .inl (l3))] [] h (some (.inl res.1)) res.2 := by
  unfold F12_inRoomOthers_4b at H
  refine ev_iload_n (M := T12_inRoomOthers) (pc := 4) 3 dX12_inRoomOthers_4 (k := ?_)
  refine ev_bipush (M := T12_inRoomOthers) (pc := 5) dX12_inRoomOthers_5 (k := ?_)
  refine ev_icmpge (M := T12_inRoomOthers) (pc := 7) 75 dX12_inRoomOthers_7 (kt := fun hc => ?_) (kf := fun hc => ?_)
  · replace H := if_pe hc H
    refine ev_iload_n (M := T12_inRoomOthers) (pc := 75) 2 dX12_inRoomOthers_75 (k := ?_)
    refine ev_sipush (M := T12_inRoomOthers) (pc := 76) dX12_inRoomOthers_76 (k := ?_)
    refine ev_icmple (M := T12_inRoomOthers) (pc := 79) 88 dX12_inRoomOthers_79 (kt := fun hc => ?_) (kf := fun hc => ?_)
    · replace H := if_pe hc H
      refine ev_iload_n (M := T12_inRoomOthers) (pc := 88) 2 dX12_inRoomOthers_88 (k := ?_)
      refine ev_sipush (M := T12_inRoomOthers) (pc := 89) dX12_inRoomOthers_89 (k := ?_)
      refine ev_icmpge (M := T12_inRoomOthers) (pc := 92) 101 dX12_inRoomOthers_92 (kt := fun hc => ?_) (kf := fun hc => ?_)
      · replace H := if_pe hc H
        refine ev_iload_n (M := T12_inRoomOthers) (pc := 101) 2 dX12_inRoomOthers_101 (k := ?_)
        cases H
        exact ev_ireturn (M := T12_inRoomOthers) (pc := 102) dX12_inRoomOthers_102
      · replace H := if_ne hc H
        refine ev_sipush (M := T12_inRoomOthers) (pc := 95) dX12_inRoomOthers_95 (k := ?_)
        refine ev_goto (M := T12_inRoomOthers) (pc := 98) 102 dX12_inRoomOthers_98 (k := ?_)
        cases H
        exact ev_ireturn (M := T12_inRoomOthers) (pc := 102) dX12_inRoomOthers_102
    · replace H := if_ne hc H
      refine ev_sipush (M := T12_inRoomOthers) (pc := 82) dX12_inRoomOthers_82 (k := ?_)
      refine ev_goto (M := T12_inRoomOthers) (pc := 85) 102 dX12_inRoomOthers_85 (k := ?_)
      cases H
      exact ev_ireturn (M := T12_inRoomOthers) (pc := 102) dX12_inRoomOthers_102
  · replace H := if_ne hc H
    refine ev_iload_n (M := T12_inRoomOthers) (pc := 10) 3 dX12_inRoomOthers_10 (k := ?_)
    refine ev_iload_n (M := T12_inRoomOthers) (pc := 11) 1 dX12_inRoomOthers_11 (k := ?_)
    refine ev_icmpeq (M := T12_inRoomOthers) (pc := 12) 69 dX12_inRoomOthers_12 (kt := fun hc => ?_) (kf := fun hc => ?_)
    · replace H := if_pe hc H
      exact E12_inRoomOthers_69 k4 hk4 l1 l2 l3 h _ H
    · replace H := if_ne hc H
      refine ev_aload_n (M := T12_inRoomOthers) (pc := 15) 0 dX12_inRoomOthers_15 (k := ?_)
      refine ev_getR (M := T12_inRoomOthers) (pc := 16) (t := 133) (x := some (133, 0)) fl_X12_95 dX12_inRoomOthers_16 (hx := ry_12_33 _ _) (K := ?_)
      refine ev_iload_n (M := T12_inRoomOthers) (pc := 19) 3 dX12_inRoomOthers_19 (k := ?_)
      obtain ⟨⟨hi0, hi1⟩, H1⟩ := g_e H
      clear H
      refine ev_iaload (M := T12_inRoomOthers) (pc := 20) (k := 133) hi0 hi1 dX12_inRoomOthers_20 (hc := ac_133) (hlen := ln_133 _ _) (K := ?_)
      refine ev_iconst (M := T12_inRoomOthers) (pc := 21) dX12_inRoomOthers_21 (k := ?_)
      refine ev_icmpne (M := T12_inRoomOthers) (pc := 22) 69 dX12_inRoomOthers_22 (kt := fun hc => ?_) (kf := fun hc => ?_)
      · replace H1 := if_ne hc H1
        exact E12_inRoomOthers_69 k4 hk4 l1 l2 l3 h _ H1
      · replace H1 := if_pe hc H1
        refine ev_aload_n (M := T12_inRoomOthers) (pc := 25) 0 dX12_inRoomOthers_25 (k := ?_)
        refine ev_getR (M := T12_inRoomOthers) (pc := 26) (t := 135) (x := some (135, 0)) fl_X12_101 dX12_inRoomOthers_26 (hx := ry_12_35 _ _) (K := ?_)
        refine ev_iload_n (M := T12_inRoomOthers) (pc := 29) 3 dX12_inRoomOthers_29 (k := ?_)
        obtain ⟨⟨hi0, hi1⟩, H2⟩ := g_e H1
        clear H1
        refine ev_iaload (M := T12_inRoomOthers) (pc := 30) (k := 135) hi0 hi1 dX12_inRoomOthers_30 (hc := ac_135) (hlen := ln_135 _ _) (K := ?_)
        refine ev_aload_n (M := T12_inRoomOthers) (pc := 31) 0 dX12_inRoomOthers_31 (k := ?_)
        refine ev_getR (M := T12_inRoomOthers) (pc := 32) (t := 135) (x := some (135, 0)) fl_X12_101 dX12_inRoomOthers_32 (hx := ry_12_35 _ _) (K := ?_)
        refine ev_iload_n (M := T12_inRoomOthers) (pc := 35) 1 dX12_inRoomOthers_35 (k := ?_)
        obtain ⟨⟨hi0, hi1⟩, H3⟩ := g_e H2
        clear H2
        refine ev_iaload (M := T12_inRoomOthers) (pc := 36) (k := 135) hi0 hi1 dX12_inRoomOthers_36 (hc := ac_135) (hlen := ln_135 _ _) (K := ?_)
        refine ev_icmpne (M := T12_inRoomOthers) (pc := 37) 69 dX12_inRoomOthers_37 (kt := fun hc => ?_) (kf := fun hc => ?_)
        · replace H3 := if_ne hc H3
          exact E12_inRoomOthers_69 k4 hk4 l1 l2 l3 h _ H3
        · replace H3 := if_pe hc H3
          refine ev_aload_n (M := T12_inRoomOthers) (pc := 40) 0 dX12_inRoomOthers_40 (k := ?_)
          refine ev_getR (M := T12_inRoomOthers) (pc := 41) (t := 137) (x := some (137, 0)) fl_X12_107 dX12_inRoomOthers_41 (hx := ry_12_37 _ _) (K := ?_)
          refine ev_iload_n (M := T12_inRoomOthers) (pc := 44) 3 dX12_inRoomOthers_44 (k := ?_)
          obtain ⟨⟨hi0, hi1⟩, H4⟩ := g_e H3
          clear H3
          refine ev_iaload (M := T12_inRoomOthers) (pc := 45) (k := 137) hi0 hi1 dX12_inRoomOthers_45 (hc := ac_137) (hlen := ln_137 _ _) (K := ?_)
          refine ev_aload_n (M := T12_inRoomOthers) (pc := 46) 0 dX12_inRoomOthers_46 (k := ?_)
          refine ev_getR (M := T12_inRoomOthers) (pc := 47) (t := 137) (x := some (137, 0)) fl_X12_107 dX12_inRoomOthers_47 (hx := ry_12_37 _ _) (K := ?_)
          refine ev_iload_n (M := T12_inRoomOthers) (pc := 50) 1 dX12_inRoomOthers_50 (k := ?_)
          obtain ⟨⟨hi0, hi1⟩, H5⟩ := g_e H4
          clear H4
          refine ev_iaload (M := T12_inRoomOthers) (pc := 51) (k := 137) hi0 hi1 dX12_inRoomOthers_51 (hc := ac_137) (hlen := ln_137 _ _) (K := ?_)
          refine ev_icmpne (M := T12_inRoomOthers) (pc := 52) 69 dX12_inRoomOthers_52 (kt := fun hc => ?_) (kf := fun hc => ?_)
          · replace H5 := if_ne hc H5
            exact E12_inRoomOthers_69 k4 hk4 l1 l2 l3 h _ H5
          · replace H5 := if_pe hc H5
            refine ev_iload_n (M := T12_inRoomOthers) (pc := 55) 2 dX12_inRoomOthers_55 (k := ?_)
            refine ev_aload_n (M := T12_inRoomOthers) (pc := 56) 0 dX12_inRoomOthers_56 (k := ?_)
            refine ev_iload_n (M := T12_inRoomOthers) (pc := 57) 3 dX12_inRoomOthers_57 (k := ?_)
            refine ev_aload_n (M := T12_inRoomOthers) (pc := 58) 0 dX12_inRoomOthers_58 (k := ?_)
            refine ev_getR (M := T12_inRoomOthers) (pc := 59) (t := 136) (x := some (136, 0)) fl_X12_104 dX12_inRoomOthers_59 (hx := ry_12_36 _ _) (K := ?_)
            refine ev_iload_n (M := T12_inRoomOthers) (pc := 62) 3 dX12_inRoomOthers_62 (k := ?_)
            obtain ⟨⟨hi0, hi1⟩, H6⟩ := g_e H5
            clear H5
            refine ev_iaload (M := T12_inRoomOthers) (pc := 63) (k := 136) hi0 hi1 dX12_inRoomOthers_63 (hc := ac_136) (hlen := ln_136 _ _) (K := ?_)
            obtain ⟨q1, hq, H7⟩ := bd_e H6
            clear H6
            refine ev_callV (M := T12_inRoomOthers) (pc := 64) (mc := 0) (ms := 0) (st := [.inl (l2)]) (C12_given hq) md_X12_given im_X12_given se_X12_given ml_X12_471 dX12_inRoomOthers_64 _ (by decide) (K := ?_)
            refine ev_iadd (M := T12_inRoomOthers) (pc := 67) dX12_inRoomOthers_67 (k := ?_)
            obtain ⟨x2, ex2, H8⟩ := lt_e H7
            clear H7
            refine ev_topI ex2 ?_
            refine ev_istore_n (M := T12_inRoomOthers) (pc := 68) [(2, .inl (x2)), (0, .inr (.inr (some (12, 0)))), (1, .inl (l1)), (3, .inl (l3))] dX12_inRoomOthers_68 (k := ?_)
            refine ev_lv [1, 2, 0, 3] [(0, .inr (.inr (some (12, 0)))), (1, .inl (l1)), (2, .inl (x2)), (3, .inl (l3))] (k := ?_)
            exact E12_inRoomOthers_69 k4 hk4 l1 x2 l3 q1.2 _ H8
theorem E12_inRoomOthers_4 (n : Nat) : ∀ (l1 : Int) (l2 : Int) (l3 : Int) (h : JM) (res : (Int × JM)), F12_inRoomOthers_4 n l1 l2 l3 h = some res → Ev j_W1 5 0 0 T12_inRoomOthers 4 [(0, .inr (.inr (some (12, 0)))), (1, .inl (l1)), (2, .inl (l2)), (3, .inl (l3))] [] h (some (.inl res.1)) res.2 := by
  induction n with
  | zero =>
    intro l1 l2 l3 h res H
    cases H
  | succ n ih =>
    intro l1 l2 l3 h res H
    exact E12_inRoomOthers_4b (F12_inRoomOthers_4 n) ih l1 l2 l3 h res H
set_option maxRecDepth 100000 in
set_option maxHeartbeats 4000000 in
theorem C12_inRoomOthers {l1 : Int} {h : JM} {res : (Int × JM)} (H : F12_inRoomOthers l1 h = some res) : Cn j_W1 5 0 0 yX12_inRoomOthers cX12_inRoomOthers 4 (some .int) [.inr (.inr (some (12, 0))), .inl (l1)] h (some (.inl res.1)) res.2 := by
  refine Cn.by (own := RX12) (b := false) [(0, .inr (.inr (some (12, 0)))), (1, .inl (l1))] rfl (fun z => by cases z) (by decide +kernel) (K := ?_)
  unfold F12_inRoomOthers at H
  refine ev_iconst (M := T12_inRoomOthers) (pc := 0) dX12_inRoomOthers_0 (k := ?_)
  refine ev_istore_n (M := T12_inRoomOthers) (pc := 1) [(2, .inl (0)), (0, .inr (.inr (some (12, 0)))), (1, .inl (l1))] dX12_inRoomOthers_1 (k := ?_)
  refine ev_iconst (M := T12_inRoomOthers) (pc := 2) dX12_inRoomOthers_2 (k := ?_)
  refine ev_istore_n (M := T12_inRoomOthers) (pc := 3) [(3, .inl (0)), (2, .inl (0)), (0, .inr (.inr (some (12, 0)))), (1, .inl (l1))] dX12_inRoomOthers_3 (k := ?_)
  refine ev_lv [2, 3, 1, 0] [(0, .inr (.inr (some (12, 0)))), (1, .inl (l1)), (2, .inl (0)), (3, .inl (0))] (k := ?_)
  exact E12_inRoomOthers_4 j_fu l1 0 0 h _ H
-- X12_isFlag
abbrev T12_isFlag : JT := (RX12, cX12_isFlag, 3, some .boolean, false)
set_option maxRecDepth 100000 in
set_option maxHeartbeats 4000000 in
theorem E12_isFlag_28 (k2 : Option Int → Int → Int → JM → Option (Int × JM)) (hk2 : ∀ (l0 : Option Int) (l1 : Int) (l2 : Int) (h : JM) (res : (Int × JM)), k2 l0 l1 l2 h = some res → Ev j_W1 1 0 0 T12_isFlag 2 [(0, .inr (.inr (Option.map (Prod.mk 173) (l0)))), (1, .inl (l1)), (2, .inl (l2))] [] h (some (.inl res.1)) res.2) (l0 : Option Int) (l1 : Int) (l2 : Int) (s0 : Int) (s1 : Int) (h : JM) (res : (Int × JM)) (H : F12_isFlag_28 k2 l0 l1 l2 s0 s1 h = some res) : Ev j_W1 1 0 0 T12_isFlag 28 [(0, .inr (.inr (Option.map (Prod.mk 173) (l0)))), (1, .inl (l1)), (2, .inl (l2))] [.inl (s1), .inl (s0)] h (some (.inl res.1)) res.2 := by
  unfold F12_isFlag_28 at H
  refine ev_icmpeq (M := T12_isFlag) (pc := 28) 33 dX12_isFlag_28 (kt := fun hc => ?_) (kf := fun hc => ?_)
  · replace H := if_pe hc H
    refine ev_iinc (M := T12_isFlag) (pc := 33) 2 [(2, .inl (w32 (l2 + 1))), (0, .inr (.inr (Option.map (Prod.mk 173) (l0)))), (1, .inl (l1))] dX12_isFlag_33 (k := ?_)
    refine ev_goto (M := T12_isFlag) (pc := 36) 2 dX12_isFlag_36 (k := ?_)
    refine ev_lv [1, 2, 0] [(0, .inr (.inr (Option.map (Prod.mk 173) (l0)))), (1, .inl (l1)), (2, .inl (w32 (l2 + 1)))] (k := ?_)
    exact hk2 l0 l1 (w32 (l2 + 1)) h _ H
  · replace H := if_ne hc H
    refine ev_iconst (M := T12_isFlag) (pc := 31) dX12_isFlag_31 (k := ?_)
    cases H
    exact ev_zreturn (M := T12_isFlag) (pc := 32) (Or.inl rfl) dX12_isFlag_32
set_option maxRecDepth 100000 in
set_option maxHeartbeats 4000000 in
theorem E12_isFlag_23 (k2 : Option Int → Int → Int → JM → Option (Int × JM)) (hk2 : ∀ (l0 : Option Int) (l1 : Int) (l2 : Int) (h : JM) (res : (Int × JM)), k2 l0 l1 l2 h = some res → Ev j_W1 1 0 0 T12_isFlag 2 [(0, .inr (.inr (Option.map (Prod.mk 173) (l0)))), (1, .inl (l1)), (2, .inl (l2))] [] h (some (.inl res.1)) res.2) (l0 : Option Int) (l1 : Int) (l2 : Int) (s0 : Int) (h : JM) (res : (Int × JM)) (H : F12_isFlag_23 k2 l0 l1 l2 s0 h = some res) : Ev j_W1 1 0 0 T12_isFlag 23 [(0, .inr (.inr (Option.map (Prod.mk 173) (l0)))), (1, .inl (l1)), (2, .inl (l2))] [.inl (s0)] h (some (.inl res.1)) res.2 := by
  unfold F12_isFlag_23 at H
  refine ev_iconst (M := T12_isFlag) (pc := 23) dX12_isFlag_23 (k := ?_)
  refine ev_goto (M := T12_isFlag) (pc := 24) 28 dX12_isFlag_24 (k := ?_)
  exact E12_isFlag_28 k2 hk2 l0 l1 l2 s0 0 h _ H
set_option maxRecDepth 100000 in
set_option maxHeartbeats 4000000 in
theorem E12_isFlag_2b (k2 : Option Int → Int → Int → JM → Option (Int × JM)) (hk2 : ∀ (l0 : Option Int) (l1 : Int) (l2 : Int) (h : JM) (res : (Int × JM)), k2 l0 l1 l2 h = some res → Ev j_W1 1 0 0 T12_isFlag 2 [(0, .inr (.inr (Option.map (Prod.mk 173) (l0)))), (1, .inl (l1)), (2, .inl (l2))] [] h (some (.inl res.1)) res.2) (l0 : Option Int) (l1 : Int) (l2 : Int) (h : JM) (res : (Int × JM)) (H : F12_isFlag_2b k2 l0 l1 l2 h = some res) : Ev j_W1 1 0 0 T12_isFlag 2 [(0, .inr (.inr (Option.map (Prod.mk 173) (l0)))), (1, .inl (l1)), (2, .inl (l2))] [] h (some (.inl res.1)) res.2 := by
  unfold F12_isFlag_2b at H
  refine ev_iload_n (M := T12_isFlag) (pc := 2) 2 dX12_isFlag_2 (k := ?_)
  refine ev_bipush (M := T12_isFlag) (pc := 3) dX12_isFlag_3 (k := ?_)
  refine ev_icmpge (M := T12_isFlag) (pc := 5) 39 dX12_isFlag_5 (kt := fun hc => ?_) (kf := fun hc => ?_)
  · replace H := if_pe hc H
    refine ev_iconst (M := T12_isFlag) (pc := 39) dX12_isFlag_39 (k := ?_)
    cases H
    exact ev_zreturn (M := T12_isFlag) (pc := 40) (Or.inr rfl) dX12_isFlag_40
  · replace H := if_ne hc H
    refine ev_aload_n (M := T12_isFlag) (pc := 8) 0 dX12_isFlag_8 (k := ?_)
    refine ev_iload_n (M := T12_isFlag) (pc := 9) 1 dX12_isFlag_9 (k := ?_)
    refine ev_iload_n (M := T12_isFlag) (pc := 10) 2 dX12_isFlag_10 (k := ?_)
    refine ev_iadd (M := T12_isFlag) (pc := 11) dX12_isFlag_11 (k := ?_)
    obtain ⟨a1, ea1, H1⟩ := bd_e H
    clear H
    rw [ea1]
    obtain ⟨⟨hi0, hi1⟩, H2⟩ := g_e H1
    clear H1
    refine ev_iaload (M := T12_isFlag) (pc := 12) (k := 173) hi0 hi1 dX12_isFlag_12 (hc := ac_173) (hlen := ln_173 _ _) (K := ?_)
    refine ev_iload_n (M := T12_isFlag) (pc := 13) 2 dX12_isFlag_13 (k := ?_)
    refine ev_ifeq (M := T12_isFlag) (pc := 14) 23 dX12_isFlag_14 (kt := fun hc => ?_) (kf := fun hc => ?_)
    · replace H2 := if_pe hc H2
      exact E12_isFlag_23 k2 hk2 (some a1) l1 l2 (h.1 173 a1 (w32 (l1 + l2))) h _ H2
    · replace H2 := if_ne hc H2
      refine ev_iload_n (M := T12_isFlag) (pc := 17) 2 dX12_isFlag_17 (k := ?_)
      refine ev_bipush (M := T12_isFlag) (pc := 18) dX12_isFlag_18 (k := ?_)
      refine ev_icmpne (M := T12_isFlag) (pc := 20) 27 dX12_isFlag_20 (kt := fun hc => ?_) (kf := fun hc => ?_)
      · replace H2 := if_ne hc H2
        refine ev_iconst (M := T12_isFlag) (pc := 27) dX12_isFlag_27 (k := ?_)
        exact E12_isFlag_28 k2 hk2 (some a1) l1 l2 (h.1 173 a1 (w32 (l1 + l2))) 1 h _ H2
      · replace H2 := if_pe hc H2
        exact E12_isFlag_23 k2 hk2 (some a1) l1 l2 (h.1 173 a1 (w32 (l1 + l2))) h _ H2
theorem E12_isFlag_2 (n : Nat) : ∀ (l0 : Option Int) (l1 : Int) (l2 : Int) (h : JM) (res : (Int × JM)), F12_isFlag_2 n l0 l1 l2 h = some res → Ev j_W1 1 0 0 T12_isFlag 2 [(0, .inr (.inr (Option.map (Prod.mk 173) (l0)))), (1, .inl (l1)), (2, .inl (l2))] [] h (some (.inl res.1)) res.2 := by
  induction n with
  | zero =>
    intro l0 l1 l2 h res H
    cases H
  | succ n ih =>
    intro l0 l1 l2 h res H
    exact E12_isFlag_2b (F12_isFlag_2 n) ih l0 l1 l2 h res H
set_option maxRecDepth 100000 in
set_option maxHeartbeats 4000000 in
theorem C12_isFlag {l0 : Option Int} {l1 : Int} {h : JM} {res : (Int × JM)} (H : F12_isFlag l0 l1 h = some res) : Cn j_W1 1 0 0 yX12_isFlag cX12_isFlag 3 (some .boolean) [.inr (.inr (Option.map (Prod.mk 173) (l0))), .inl (l1)] h (some (.inl res.1)) res.2 := by
  refine Cn.by (own := RX12) (b := false) [(0, .inr (.inr (Option.map (Prod.mk 173) (l0)))), (1, .inl (l1))] rfl (fun z => by cases z) (by decide +kernel) (K := ?_)
  unfold F12_isFlag at H
  refine ev_iconst (M := T12_isFlag) (pc := 0) dX12_isFlag_0 (k := ?_)
  refine ev_istore_n (M := T12_isFlag) (pc := 1) [(2, .inl (0)), (0, .inr (.inr (Option.map (Prod.mk 173) (l0)))), (1, .inl (l1))] dX12_isFlag_1 (k := ?_)
  refine ev_lv [1, 2, 0] [(0, .inr (.inr (Option.map (Prod.mk 173) (l0)))), (1, .inl (l1)), (2, .inl (0))] (k := ?_)
  exact E12_isFlag_2 j_fu l0 l1 0 h _ H
-- X12_read
abbrev T12_read : JT := (RX12, cX12_read, 5, some .int, false)
set_option maxRecDepth 100000 in
set_option maxHeartbeats 4000000 in
theorem E12_read_7b (k7 : Int → Int → Int → JM → Option (Int × JM)) (hk7 : ∀ (l1 : Int) (l3 : Int) (l4 : Int) (h : JM) (res : (Int × JM)), k7 l1 l3 l4 h = some res → Ev j_W1 1 0 0 T12_read 7 [(0, .inr (.inr (some (12, 0)))), (1, .inl (l1)), (3, .inl (l3)), (4, .inl (l4))] [] h (some (.inl res.1)) res.2) (l1 : Int) (l3 : Int) (l4 : Int) (h : JM) (res : (Int × JM)) (H : F12_read_7b k7 l1 l3 l4 h = some res) : Ev j_W1 1 0 0 T12_read 7 [(0, .inr (.inr (some (12, 0)))), (1, .inl (l1)), (3, .inl (l3)), (4, .inl (l4))] [] h (some (.inl res.1)) res.2 := by
  unfold F12_read_7b at H
  refine ev_iload (M := T12_read) (pc := 7) 3 dX12_read_7 (k := ?_)
  refine ev_iflt (M := T12_read) (pc := 9) 32 dX12_read_9 (kt := fun hc => ?_) (kf := fun hc => ?_)
  · replace H := if_pe hc H
    refine ev_iload_n (M := T12_read) (pc := 32) 2 dX12_read_32 (k := ?_)
    cases H
    exact ev_ireturn (M := T12_read) (pc := 33) dX12_read_33
  · replace H := if_ne hc H
    refine ev_iconst (M := T12_read) (pc := 12) dX12_read_12 (k := ?_)
    refine ev_iload_n (M := T12_read) (pc := 13) 2 dX12_read_13 (k := ?_)
    refine ev_imul (M := T12_read) (pc := 14) dX12_read_14 (k := ?_)
    refine ev_aload_n (M := T12_read) (pc := 15) 0 dX12_read_15 (k := ?_)
    refine ev_getR (M := T12_read) (pc := 16) (t := 182) (x := some (182, 0)) fl_X12_231 dX12_read_16 (hx := ry_12_82 _ _) (K := ?_)
    refine ev_iload_n (M := T12_read) (pc := 19) 1 dX12_read_19 (k := ?_)
    refine ev_iload (M := T12_read) (pc := 20) 3 dX12_read_20 (k := ?_)
    refine ev_iadd (M := T12_read) (pc := 22) dX12_read_22 (k := ?_)
    obtain ⟨⟨hi0, hi1⟩, H1⟩ := g_e H
    clear H
    refine ev_iaload (M := T12_read) (pc := 23) (k := 182) hi0 hi1 dX12_read_23 (hc := ac_182) (hlen := ln_182 _ _) (K := ?_)
    refine ev_iadd (M := T12_read) (pc := 24) dX12_read_24 (k := ?_)
    obtain ⟨x1, ex1, H2⟩ := lt_e H1
    clear H1
    refine ev_topI ex1 ?_
    refine ev_istore_n (M := T12_read) (pc := 25) [(3, .inl (x1)), (0, .inr (.inr (some (12, 0)))), (1, .inl (l1)), (4, .inl (l4))] dX12_read_25 (k := ?_)
    refine ev_iinc (M := T12_read) (pc := 26) 3 [(4, .inl (w32 (l4 + (-1)))), (3, .inl (x1)), (0, .inr (.inr (some (12, 0)))), (1, .inl (l1))] dX12_read_26 (k := ?_)
    refine ev_goto (M := T12_read) (pc := 29) 7 dX12_read_29 (k := ?_)
    refine ev_lv [2, 3, 1, 0] [(0, .inr (.inr (some (12, 0)))), (1, .inl (l1)), (3, .inl (x1)), (4, .inl (w32 (l4 + (-1))))] (k := ?_)
    exact hk7 l1 x1 (w32 (l4 + (-1))) h _ H2
theorem E12_read_7 (n : Nat) : ∀ (l1 : Int) (l3 : Int) (l4 : Int) (h : JM) (res : (Int × JM)), F12_read_7 n l1 l3 l4 h = some res → Ev j_W1 1 0 0 T12_read 7 [(0, .inr (.inr (some (12, 0)))), (1, .inl (l1)), (3, .inl (l3)), (4, .inl (l4))] [] h (some (.inl res.1)) res.2 := by
  induction n with
  | zero =>
    intro l1 l3 l4 h res H
    cases H
  | succ n ih =>
    intro l1 l3 l4 h res H
    exact E12_read_7b (F12_read_7 n) ih l1 l3 l4 h res H
set_option maxRecDepth 100000 in
set_option maxHeartbeats 4000000 in
theorem C12_read {l1 : Int} {l2 : Int} {h : JM} {res : (Int × JM)} (H : F12_read l1 l2 h = some res) : Cn j_W1 1 0 0 yX12_read cX12_read 5 (some .int) [.inr (.inr (some (12, 0))), .inl (l1), .inl (l2)] h (some (.inl res.1)) res.2 := by
  refine Cn.by (own := RX12) (b := false) [(0, .inr (.inr (some (12, 0)))), (1, .inl (l1)), (2, .inl (l2))] rfl (fun z => by cases z) (by decide +kernel) (K := ?_)
  unfold F12_read at H
  refine ev_iconst (M := T12_read) (pc := 0) dX12_read_0 (k := ?_)
  refine ev_istore_n (M := T12_read) (pc := 1) [(3, .inl (0)), (0, .inr (.inr (some (12, 0)))), (1, .inl (l1)), (2, .inl (l2))] dX12_read_1 (k := ?_)
  refine ev_iload_n (M := T12_read) (pc := 2) 3 dX12_read_2 (k := ?_)
  refine ev_iconst (M := T12_read) (pc := 3) dX12_read_3 (k := ?_)
  refine ev_isub (M := T12_read) (pc := 4) dX12_read_4 (k := ?_)
  obtain ⟨x2, ex2, H1⟩ := lt_e H
  clear H
  refine ev_topI ex2 ?_
  refine ev_istore (M := T12_read) (pc := 5) [(4, .inl (x2)), (3, .inl (0)), (0, .inr (.inr (some (12, 0)))), (1, .inl (l1)), (2, .inl (l2))] dX12_read_5 (k := ?_)
  refine ev_lv [2, 3, 1, 0] [(0, .inr (.inr (some (12, 0)))), (1, .inl (l1)), (3, .inl (0)), (4, .inl (x2))] (k := ?_)
  exact E12_read_7 j_fu l1 0 x2 h _ H1
-- X12_isRight
abbrev T12_isRight : JT := (RX12, cX12_isRight, 8, some .boolean, false)
set_option maxRecDepth 100000 in
set_option maxHeartbeats 4000000 in
theorem E12_isRight_213 (h : JM) (res : (Int × JM)) (H : F12_isRight_213 h = some res) : Ev j_W1 2 0 0 T12_isRight 213 [] [] h (some (.inl res.1)) res.2 := by
  unfold F12_isRight_213 at H
  refine ev_iconst (M := T12_isRight) (pc := 213) dX12_isRight_213 (k := ?_)
  cases H
  exact ev_zreturn (M := T12_isRight) (pc := 214) (Or.inl rfl) dX12_isRight_214
set_option maxRecDepth 100000 in
set_option maxHeartbeats 4000000 in
theorem E12_isRight_172 (k89 : Int → Int → Int → Int → JM → Option (Int × JM)) (hk89 : ∀ (l4 : Int) (l5 : Int) (l6 : Int) (l7 : Int) (h : JM) (res : (Int × JM)), k89 l4 l5 l6 l7 h = some res → Ev j_W1 2 0 0 T12_isRight 89 [(0, .inr (.inr (some (12, 0)))), (4, .inl (l4)), (5, .inl (l5)), (6, .inl (l6)), (7, .inl (l7))] [] h (some (.inl res.1)) res.2) (l4 : Int) (l5 : Int) (l6 : Int) (l7 : Int) (h : JM) (res : (Int × JM)) (H : F12_isRight_172 k89 l4 l5 l6 l7 h = some res) : Ev j_W1 2 0 0 T12_isRight 172 [(0, .inr (.inr (some (12, 0)))), (4, .inl (l4)), (5, .inl (l5)), (6, .inl (l6)), (7, .inl (l7))] [] h (some (.inl res.1)) res.2 := by
  unfold F12_isRight_172 at H
  refine ev_iinc (M := T12_isRight) (pc := 172) 4 [(7, .inl (w32 (l7 + 1))), (0, .inr (.inr (some (12, 0)))), (4, .inl (l4)), (5, .inl (l5)), (6, .inl (l6))] dX12_isRight_172 (k := ?_)
  refine ev_goto (M := T12_isRight) (pc := 175) 89 dX12_isRight_175 (k := ?_)
  refine ev_lv [1, 2, 3, 4, 0] [(0, .inr (.inr (some (12, 0)))), (4, .inl (l4)), (5, .inl (l5)), (6, .inl (l6)), (7, .inl (w32 (l7 + 1)))] (k := ?_)
  exact hk89 l4 l5 l6 (w32 (l7 + 1)) h _ H
set_option maxRecDepth 100000 in
set_option maxHeartbeats 4000000 in
theorem E12_isRight_170 (k89 : Int → Int → Int → Int → JM → Option (Int × JM)) (hk89 : ∀ (l4 : Int) (l5 : Int) (l6 : Int) (l7 : Int) (h : JM) (res : (Int × JM)), k89 l4 l5 l6 l7 h = some res → Ev j_W1 2 0 0 T12_isRight 89 [(0, .inr (.inr (some (12, 0)))), (4, .inl (l4)), (5, .inl (l5)), (6, .inl (l6)), (7, .inl (l7))] [] h (some (.inl res.1)) res.2) (l4 : Int) (l6 : Int) (l7 : Int) (s0 : Int) (h : JM) (res : (Int × JM)) (H : F12_isRight_170 k89 l4 l6 l7 s0 h = some res) : Ev j_W1 2 0 0 T12_isRight 170 [(0, .inr (.inr (some (12, 0)))), (4, .inl (l4)), (6, .inl (l6)), (7, .inl (l7))] [.inl (s0)] h (some (.inl res.1)) res.2 := by
  unfold F12_isRight_170 at H
  refine ev_istore (M := T12_isRight) (pc := 170) [(5, .inl (s0)), (0, .inr (.inr (some (12, 0)))), (4, .inl (l4)), (6, .inl (l6)), (7, .inl (l7))] dX12_isRight_170 (k := ?_)
  refine ev_lv [1, 2, 0, 3, 4] [(0, .inr (.inr (some (12, 0)))), (4, .inl (l4)), (5, .inl (s0)), (6, .inl (l6)), (7, .inl (l7))] (k := ?_)
  exact E12_isRight_172 k89 hk89 l4 s0 l6 l7 h _ H
set_option maxRecDepth 100000 in
set_option maxHeartbeats 4000000 in
theorem E12_isRight_119 (k89 : Int → Int → Int → Int → JM → Option (Int × JM)) (hk89 : ∀ (l4 : Int) (l5 : Int) (l6 : Int) (l7 : Int) (h : JM) (res : (Int × JM)), k89 l4 l5 l6 l7 h = some res → Ev j_W1 2 0 0 T12_isRight 89 [(0, .inr (.inr (some (12, 0)))), (4, .inl (l4)), (5, .inl (l5)), (6, .inl (l6)), (7, .inl (l7))] [] h (some (.inl res.1)) res.2) (l4 : Int) (l7 : Int) (s0 : Int) (s1 : Int) (h : JM) (res : (Int × JM)) (H : F12_isRight_119 k89 l4 l7 s0 s1 h = some res) : Ev j_W1 2 0 0 T12_isRight 119 [(0, .inr (.inr (some (12, 0)))), (4, .inl (l4)), (7, .inl (l7))] [.inl (s1), .inl (s0)] h (some (.inl res.1)) res.2 := by
  unfold F12_isRight_119 at H
  refine ev_iand (M := T12_isRight) (pc := 119) dX12_isRight_119 (k := ?_)
  obtain ⟨x1, ex1, H1⟩ := lt_e H
  clear H
  refine ev_topI ex1 ?_
  refine ev_istore (M := T12_isRight) (pc := 120) [(6, .inl (x1)), (0, .inr (.inr (some (12, 0)))), (4, .inl (l4)), (7, .inl (l7))] dX12_isRight_120 (k := ?_)
  refine ev_iconst (M := T12_isRight) (pc := 122) dX12_isRight_122 (k := ?_)
  refine ev_istore (M := T12_isRight) (pc := 123) [(5, .inl (0)), (6, .inl (x1)), (0, .inr (.inr (some (12, 0)))), (4, .inl (l4)), (7, .inl (l7))] dX12_isRight_123 (k := ?_)
  refine ev_goto (M := T12_isRight) (pc := 125) 172 dX12_isRight_125 (k := ?_)
  refine ev_lv [2, 3, 0, 1, 4] [(0, .inr (.inr (some (12, 0)))), (4, .inl (l4)), (5, .inl (0)), (6, .inl (x1)), (7, .inl (l7))] (k := ?_)
  exact E12_isRight_172 k89 hk89 l4 0 x1 l7 h _ H1
set_option maxRecDepth 100000 in
set_option maxHeartbeats 4000000 in
theorem E12_isRight_89b (k89 : Int → Int → Int → Int → JM → Option (Int × JM)) (hk89 : ∀ (l4 : Int) (l5 : Int) (l6 : Int) (l7 : Int) (h : JM) (res : (Int × JM)), k89 l4 l5 l6 l7 h = some res → Ev j_W1 2 0 0 T12_isRight 89 [(0, .inr (.inr (some (12, 0)))), (4, .inl (l4)), (5, .inl (l5)), (6, .inl (l6)), (7, .inl (l7))] [] h (some (.inl res.1)) res.2) (l4 : Int) (l5 : Int) (l6 : Int) (l7 : Int) (h : JM) (res : (Int × JM)) (H : F12_isRight_89b k89 l4 l5 l6 l7 h = some res) : Ev j_W1 2 0 0 T12_isRight 89 [(0, .inr (.inr (some (12, 0)))), (4, .inl (l4)), (5, .inl (l5)), (6, .inl (l6)), (7, .inl (l7))] [] h (some (.inl res.1)) res.2 := by
  unfold F12_isRight_89b at H
  refine ev_iload (M := T12_isRight) (pc := 89) 4 dX12_isRight_89 (k := ?_)
  refine ev_iload (M := T12_isRight) (pc := 91) 1 dX12_isRight_91 (k := ?_)
  refine ev_icmpge (M := T12_isRight) (pc := 93) 178 dX12_isRight_93 (kt := fun hc => ?_) (kf := fun hc => ?_)
  · replace H := if_pe hc H
    refine ev_iload (M := T12_isRight) (pc := 178) 3 dX12_isRight_178 (k := ?_)
    refine ev_ifeq (M := T12_isRight) (pc := 180) 213 dX12_isRight_180 (kt := fun hc => ?_) (kf := fun hc => ?_)
    · replace H := if_pe hc H
      refine ev_lv [] [] (k := ?_)
      exact E12_isRight_213 h _ H
    · replace H := if_ne hc H
      refine ev_aload_n (M := T12_isRight) (pc := 183) 0 dX12_isRight_183 (k := ?_)
      refine ev_getI (M := T12_isRight) (pc := 184) (x := h.1 12 0 83) fl_X12_428 dX12_isRight_184 (K := ?_)
      refine ev_bipush (M := T12_isRight) (pc := 187) dX12_isRight_187 (k := ?_)
      refine ev_icmplt (M := T12_isRight) (pc := 189) 213 dX12_isRight_189 (kt := fun hc => ?_) (kf := fun hc => ?_)
      · replace H := if_pe hc H
        refine ev_lv [] [] (k := ?_)
        exact E12_isRight_213 h _ H
      · replace H := if_ne hc H
        refine ev_aload_n (M := T12_isRight) (pc := 192) 0 dX12_isRight_192 (k := ?_)
        refine ev_getI (M := T12_isRight) (pc := 193) (x := h.1 12 0 83) fl_X12_428 dX12_isRight_193 (K := ?_)
        refine ev_bipush (M := T12_isRight) (pc := 196) dX12_isRight_196 (k := ?_)
        refine ev_bipush (M := T12_isRight) (pc := 198) dX12_isRight_198 (k := ?_)
        refine ev_aload_n (M := T12_isRight) (pc := 200) 0 dX12_isRight_200 (k := ?_)
        refine ev_bipush (M := T12_isRight) (pc := 201) dX12_isRight_201 (k := ?_)
        refine ev_bipush (M := T12_isRight) (pc := 203) dX12_isRight_203 (k := ?_)
        obtain ⟨q2, hq, H1⟩ := bd_e H
        clear H
        refine ev_callV (M := T12_isRight) (pc := 205) (mc := 0) (ms := 0) (st := [.inl (8), .inl (40), .inl (h.1 12 0 83)]) (C12_read hq) md_X12_read im_X12_read se_X12_read ml_X12_450 dX12_isRight_205 _ (by decide) (K := ?_)
        refine ev_imul (M := T12_isRight) (pc := 208) dX12_isRight_208 (k := ?_)
        refine ev_iadd (M := T12_isRight) (pc := 209) dX12_isRight_209 (k := ?_)
        refine ev_icmpeq (M := T12_isRight) (pc := 210) 215 dX12_isRight_210 (kt := fun hc => ?_) (kf := fun hc => ?_)
        · replace H1 := if_pe hc H1
          refine ev_aload_n (M := T12_isRight) (pc := 215) 0 dX12_isRight_215 (k := ?_)
          refine ev_getR (M := T12_isRight) (pc := 216) (t := 182) (x := some (182, 0)) fl_X12_231 dX12_isRight_216 (hx := ry_12_82 _ _) (K := ?_)
          refine ev_iconst (M := T12_isRight) (pc := 219) dX12_isRight_219 (k := ?_)
          refine ev_aload_n (M := T12_isRight) (pc := 220) 0 dX12_isRight_220 (k := ?_)
          refine ev_getI (M := T12_isRight) (pc := 221) (x := q2.2.1 12 0 83) fl_X12_428 dX12_isRight_221 (K := ?_)
          refine ev_bipush (M := T12_isRight) (pc := 224) dX12_isRight_224 (k := ?_)
          refine ev_isub (M := T12_isRight) (pc := 226) dX12_isRight_226 (k := ?_)
          obtain ⟨q3, hq, H2⟩ := bd_e H1
          clear H1
          refine ev_callS (M := T12_isRight) (pc := 227) (mc := 0) (ms := 0) (st := []) (C12_check hq) md_X12_check ss_X12_check ml_X12_439 dX12_isRight_227 _ (by decide) (K := ?_)
          refine ev_aload_n (M := T12_isRight) (pc := 230) 0 dX12_isRight_230 (k := ?_)
          refine ev_aload_n (M := T12_isRight) (pc := 231) 0 dX12_isRight_231 (k := ?_)
          refine ev_getI (M := T12_isRight) (pc := 232) (x := q3.2.1 12 0 83) fl_X12_428 dX12_isRight_232 (K := ?_)
          refine ev_bipush (M := T12_isRight) (pc := 235) dX12_isRight_235 (k := ?_)
          refine ev_isub (M := T12_isRight) (pc := 237) dX12_isRight_237 (k := ?_)
          refine ev_bipush (M := T12_isRight) (pc := 238) dX12_isRight_238 (k := ?_)
          obtain ⟨q4, hq, H3⟩ := bd_e H2
          clear H2
          refine ev_callV (M := T12_isRight) (pc := 240) (mc := 0) (ms := 0) (st := [.inl (q3.1)]) (C12_read hq) md_X12_read im_X12_read se_X12_read ml_X12_450 dX12_isRight_240 _ (by decide) (K := ?_)
          refine ev_icmpne (M := T12_isRight) (pc := 243) 250 dX12_isRight_243 (kt := fun hc => ?_) (kf := fun hc => ?_)
          · replace H3 := if_ne hc H3
            refine ev_iconst (M := T12_isRight) (pc := 250) dX12_isRight_250 (k := ?_)
            cases H3
            exact ev_zreturn (M := T12_isRight) (pc := 251) (Or.inl rfl) dX12_isRight_251
          · replace H3 := if_pe hc H3
            refine ev_iconst (M := T12_isRight) (pc := 246) dX12_isRight_246 (k := ?_)
            refine ev_goto (M := T12_isRight) (pc := 247) 251 dX12_isRight_247 (k := ?_)
            cases H3
            exact ev_zreturn (M := T12_isRight) (pc := 251) (Or.inr rfl) dX12_isRight_251
        · replace H1 := if_ne hc H1
          refine ev_lv [] [] (k := ?_)
          exact E12_isRight_213 q2.2 _ H1
  · replace H := if_ne hc H
    refine ev_iload (M := T12_isRight) (pc := 96) 2 dX12_isRight_96 (k := ?_)
    refine ev_iconst (M := T12_isRight) (pc := 98) dX12_isRight_98 (k := ?_)
    refine ev_icmpne (M := T12_isRight) (pc := 99) 128 dX12_isRight_99 (kt := fun hc => ?_) (kf := fun hc => ?_)
    · replace H := if_ne hc H
      refine ev_aload_n (M := T12_isRight) (pc := 128) 0 dX12_isRight_128 (k := ?_)
      refine ev_getR (M := T12_isRight) (pc := 129) (t := 182) (x := some (182, 0)) fl_X12_231 dX12_isRight_129 (hx := ry_12_82 _ _) (K := ?_)
      refine ev_aload_n (M := T12_isRight) (pc := 132) 0 dX12_isRight_132 (k := ?_)
      refine ev_dup (M := T12_isRight) (pc := 133) dX12_isRight_133 (k := ?_)
      refine ev_getI (M := T12_isRight) (pc := 134) (x := h.1 12 0 83) fl_X12_428 dX12_isRight_134 (K := ?_)
      refine ev_dup_x1 (M := T12_isRight) (pc := 137) dX12_isRight_137 (k := ?_)
      refine ev_iconst (M := T12_isRight) (pc := 138) dX12_isRight_138 (k := ?_)
      refine ev_iadd (M := T12_isRight) (pc := 139) dX12_isRight_139 (k := ?_)
      obtain ⟨h5, eh5, H1⟩ := lt_e H
      clear H
      refine ev_putI (M := T12_isRight) (pc := 140) j_ok1 fl_X12_428 eh5 dX12_isRight_140 (K := ?_)
      refine ev_aload_n (M := T12_isRight) (pc := 143) 0 dX12_isRight_143 (k := ?_)
      refine ev_getR (M := T12_isRight) (pc := 144) (t := 173) (x := some (173, 0)) fl_X12_210 dX12_isRight_144 (hx := ry_12_73 _ _) (K := ?_)
      refine ev_iload (M := T12_isRight) (pc := 147) 4 dX12_isRight_147 (k := ?_)
      obtain ⟨⟨hi0, hi1⟩, H2⟩ := g_e H1
      clear H1
      refine ev_iaload (M := T12_isRight) (pc := 149) (k := 173) hi0 hi1 dX12_isRight_149 (hc := ac_173) (hlen := ln_173 _ _) (K := ?_)
      obtain ⟨⟨hi0, hi1⟩, H3⟩ := g_e H2
      clear H2
      obtain ⟨h6, eh6, H4⟩ := lt_e H3
      clear H3
      refine ev_iastore (M := T12_isRight) (pc := 150) (k := 182) j_ok1 hi0 hi1 eh6 dX12_isRight_150 (hc := ac_182) (hlen := ln_182 _ _) (K := ?_)
      refine ev_aload_n (M := T12_isRight) (pc := 151) 0 dX12_isRight_151 (k := ?_)
      refine ev_getR (M := T12_isRight) (pc := 152) (t := 173) (x := some (173, 0)) fl_X12_210 dX12_isRight_152 (hx := ry_12_73 _ _) (K := ?_)
      refine ev_iload (M := T12_isRight) (pc := 155) 4 dX12_isRight_155 (k := ?_)
      obtain ⟨⟨hi0, hi1⟩, H5⟩ := g_e H4
      clear H4
      refine ev_iaload (M := T12_isRight) (pc := 157) (k := 173) hi0 hi1 dX12_isRight_157 (hc := ac_173) (hlen := ln_173 _ _) (K := ?_)
      refine ev_iconst (M := T12_isRight) (pc := 158) dX12_isRight_158 (k := ?_)
      refine ev_icmpne (M := T12_isRight) (pc := 159) 169 dX12_isRight_159 (kt := fun hc => ?_) (kf := fun hc => ?_)
      · replace H5 := if_ne hc H5
        refine ev_iconst (M := T12_isRight) (pc := 169) dX12_isRight_169 (k := ?_)
        refine ev_lv [0, 1, 3, 4] [(0, .inr (.inr (some (12, 0)))), (4, .inl (l4)), (6, .inl (l6)), (7, .inl (l7))] (k := ?_)
        exact E12_isRight_170 k89 hk89 l4 l6 l7 0 h6 _ H5
      · replace H5 := if_pe hc H5
        refine ev_iload (M := T12_isRight) (pc := 162) 2 dX12_isRight_162 (k := ?_)
        refine ev_iconst (M := T12_isRight) (pc := 164) dX12_isRight_164 (k := ?_)
        refine ev_iadd (M := T12_isRight) (pc := 165) dX12_isRight_165 (k := ?_)
        refine ev_goto (M := T12_isRight) (pc := 166) 170 dX12_isRight_166 (k := ?_)
        refine ev_lv [0, 1, 3, 4] [(0, .inr (.inr (some (12, 0)))), (4, .inl (l4)), (6, .inl (l6)), (7, .inl (l7))] (k := ?_)
        exact E12_isRight_170 k89 hk89 l4 l6 l7 (w32 (l5 + 1)) h6 _ H5
    · replace H := if_pe hc H
      refine ev_iload (M := T12_isRight) (pc := 102) 3 dX12_isRight_102 (k := ?_)
      refine ev_aload_n (M := T12_isRight) (pc := 104) 0 dX12_isRight_104 (k := ?_)
      refine ev_getR (M := T12_isRight) (pc := 105) (t := 173) (x := some (173, 0)) fl_X12_210 dX12_isRight_105 (hx := ry_12_73 _ _) (K := ?_)
      refine ev_iload (M := T12_isRight) (pc := 108) 4 dX12_isRight_108 (k := ?_)
      obtain ⟨⟨hi0, hi1⟩, H1⟩ := g_e H
      clear H
      refine ev_iaload (M := T12_isRight) (pc := 110) (k := 173) hi0 hi1 dX12_isRight_110 (hc := ac_173) (hlen := ln_173 _ _) (K := ?_)
      refine ev_ifne (M := T12_isRight) (pc := 111) 118 dX12_isRight_111 (kt := fun hc => ?_) (kf := fun hc => ?_)
      · replace H1 := if_ne hc H1
        refine ev_iconst (M := T12_isRight) (pc := 118) dX12_isRight_118 (k := ?_)
        refine ev_lv [0, 1, 4] [(0, .inr (.inr (some (12, 0)))), (4, .inl (l4)), (7, .inl (l7))] (k := ?_)
        exact E12_isRight_119 k89 hk89 l4 l7 l6 0 h _ H1
      · replace H1 := if_pe hc H1
        refine ev_iconst (M := T12_isRight) (pc := 114) dX12_isRight_114 (k := ?_)
        refine ev_goto (M := T12_isRight) (pc := 115) 119 dX12_isRight_115 (k := ?_)
        refine ev_lv [0, 1, 4] [(0, .inr (.inr (some (12, 0)))), (4, .inl (l4)), (7, .inl (l7))] (k := ?_)
        exact E12_isRight_119 k89 hk89 l4 l7 l6 1 h _ H1
theorem E12_isRight_89 (n : Nat) : ∀ (l4 : Int) (l5 : Int) (l6 : Int) (l7 : Int) (h : JM) (res : (Int × JM)), F12_isRight_89 n l4 l5 l6 l7 h = some res → Ev j_W1 2 0 0 T12_isRight 89 [(0, .inr (.inr (some (12, 0)))), (4, .inl (l4)), (5, .inl (l5)), (6, .inl (l6)), (7, .inl (l7))] [] h (some (.inl res.1)) res.2 := by
  induction n with
  | zero =>
    intro l4 l5 l6 l7 h res H
    cases H
  | succ n ih =>
    intro l4 l5 l6 l7 h res H
    exact E12_isRight_89b (F12_isRight_89 n) ih l4 l5 l6 l7 h res H
set_option maxRecDepth 100000 in
set_option maxHeartbeats 4000000 in
theorem E12_isRight_61 (l2 : Int) (l3 : Int) (l4 : Int) (h : JM) (res : (Int × JM)) (H : F12_isRight_61 l2 l3 l4 h = some res) : Ev j_W1 2 0 0 T12_isRight 61 [(0, .inr (.inr (some (12, 0)))), (2, .inl (l2)), (3, .inl (l3)), (4, .inl (l4))] [] h (some (.inl res.1)) res.2 := by
  unfold F12_isRight_61 at H
  refine ev_iload (M := T12_isRight) (pc := 61) 3 dX12_isRight_61 (k := ?_)
  refine ev_bipush (M := T12_isRight) (pc := 63) dX12_isRight_63 (k := ?_)
  refine ev_iadd (M := T12_isRight) (pc := 65) dX12_isRight_65 (k := ?_)
  refine ev_iload_n (M := T12_isRight) (pc := 66) 2 dX12_isRight_66 (k := ?_)
  refine ev_icmple (M := T12_isRight) (pc := 67) 72 dX12_isRight_67 (kt := fun hc => ?_) (kf := fun hc => ?_)
  · replace H := if_pe hc H
    refine ev_aload_n (M := T12_isRight) (pc := 72) 0 dX12_isRight_72 (k := ?_)
    refine ev_iconst (M := T12_isRight) (pc := 73) dX12_isRight_73 (k := ?_)
    obtain ⟨h7, eh7, H1⟩ := lt_e H
    clear H
    refine ev_putI (M := T12_isRight) (pc := 74) j_ok1 fl_X12_428 eh7 dX12_isRight_74 (K := ?_)
    refine ev_iconst (M := T12_isRight) (pc := 77) dX12_isRight_77 (k := ?_)
    refine ev_istore (M := T12_isRight) (pc := 78) [(5, .inl (0)), (0, .inr (.inr (some (12, 0)))), (2, .inl (l2)), (3, .inl (l3)), (4, .inl (l4))] dX12_isRight_78 (k := ?_)
    refine ev_iconst (M := T12_isRight) (pc := 80) dX12_isRight_80 (k := ?_)
    refine ev_istore (M := T12_isRight) (pc := 81) [(6, .inl (1)), (5, .inl (0)), (0, .inr (.inr (some (12, 0)))), (2, .inl (l2)), (3, .inl (l3)), (4, .inl (l4))] dX12_isRight_81 (k := ?_)
    refine ev_iload_n (M := T12_isRight) (pc := 83) 3 dX12_isRight_83 (k := ?_)
    refine ev_bipush (M := T12_isRight) (pc := 84) dX12_isRight_84 (k := ?_)
    refine ev_iadd (M := T12_isRight) (pc := 86) dX12_isRight_86 (k := ?_)
    obtain ⟨x8, ex8, H2⟩ := lt_e H1
    clear H1
    refine ev_topI ex8 ?_
    refine ev_istore (M := T12_isRight) (pc := 87) [(7, .inl (x8)), (6, .inl (1)), (5, .inl (0)), (0, .inr (.inr (some (12, 0)))), (2, .inl (l2)), (3, .inl (l3)), (4, .inl (l4))] dX12_isRight_87 (k := ?_)
    refine ev_lv [3, 6, 2, 1, 0] [(0, .inr (.inr (some (12, 0)))), (4, .inl (l4)), (5, .inl (0)), (6, .inl (1)), (7, .inl (x8))] (k := ?_)
    exact E12_isRight_89 j_fu l4 0 1 x8 h7 _ H2
  · replace H := if_ne hc H
    refine ev_iconst (M := T12_isRight) (pc := 70) dX12_isRight_70 (k := ?_)
    cases H
    exact ev_zreturn (M := T12_isRight) (pc := 71) (Or.inl rfl) dX12_isRight_71
set_option maxRecDepth 100000 in
set_option maxHeartbeats 4000000 in
theorem E12_isRight_34b (k34 : Int → Int → Int → JM → Option (Int × JM)) (hk34 : ∀ (l2 : Int) (l3 : Int) (l4 : Int) (h : JM) (res : (Int × JM)), k34 l2 l3 l4 h = some res → Ev j_W1 2 0 0 T12_isRight 34 [(0, .inr (.inr (some (12, 0)))), (2, .inl (l2)), (3, .inl (l3)), (4, .inl (l4))] [] h (some (.inl res.1)) res.2) (l2 : Int) (l3 : Int) (l4 : Int) (h : JM) (res : (Int × JM)) (H : F12_isRight_34b k34 l2 l3 l4 h = some res) : Ev j_W1 2 0 0 T12_isRight 34 [(0, .inr (.inr (some (12, 0)))), (2, .inl (l2)), (3, .inl (l3)), (4, .inl (l4))] [] h (some (.inl res.1)) res.2 := by
  unfold F12_isRight_34b at H
  refine ev_iload (M := T12_isRight) (pc := 34) 3 dX12_isRight_34 (k := ?_)
  refine ev_bipush (M := T12_isRight) (pc := 36) dX12_isRight_36 (k := ?_)
  refine ev_iadd (M := T12_isRight) (pc := 38) dX12_isRight_38 (k := ?_)
  refine ev_iload_n (M := T12_isRight) (pc := 39) 2 dX12_isRight_39 (k := ?_)
  refine ev_icmpgt (M := T12_isRight) (pc := 40) 61 dX12_isRight_40 (kt := fun hc => ?_) (kf := fun hc => ?_)
  · replace H := if_pe hc H
    exact E12_isRight_61 l2 l3 l4 h _ H
  · replace H := if_ne hc H
    refine ev_aload_n (M := T12_isRight) (pc := 43) 0 dX12_isRight_43 (k := ?_)
    refine ev_getR (M := T12_isRight) (pc := 44) (t := 173) (x := some (173, 0)) fl_X12_210 dX12_isRight_44 (hx := ry_12_73 _ _) (K := ?_)
    refine ev_iload (M := T12_isRight) (pc := 47) 3 dX12_isRight_47 (k := ?_)
    obtain ⟨q9, hq, H1⟩ := bd_e H
    clear H
    refine ev_callS (M := T12_isRight) (pc := 49) (mc := 0) (ms := 0) (st := []) (C12_isFlag hq) md_X12_isFlag ss_X12_isFlag ml_X12_446 dX12_isRight_49 _ (by decide) (K := ?_)
    refine ev_ifne (M := T12_isRight) (pc := 52) 61 dX12_isRight_52 (kt := fun hc => ?_) (kf := fun hc => ?_)
    · replace H1 := if_ne hc H1
      exact E12_isRight_61 l2 l3 l4 q9.2 _ H1
    · replace H1 := if_pe hc H1
      refine ev_iinc (M := T12_isRight) (pc := 55) 3 [(4, .inl (w32 (l4 + 1))), (0, .inr (.inr (some (12, 0)))), (2, .inl (l2)), (3, .inl (l3))] dX12_isRight_55 (k := ?_)
      refine ev_goto (M := T12_isRight) (pc := 58) 34 dX12_isRight_58 (k := ?_)
      refine ev_lv [1, 2, 3, 0] [(0, .inr (.inr (some (12, 0)))), (2, .inl (l2)), (3, .inl (l3)), (4, .inl (w32 (l4 + 1)))] (k := ?_)
      exact hk34 l2 l3 (w32 (l4 + 1)) q9.2 _ H1
theorem E12_isRight_34 (n : Nat) : ∀ (l2 : Int) (l3 : Int) (l4 : Int) (h : JM) (res : (Int × JM)), F12_isRight_34 n l2 l3 l4 h = some res → Ev j_W1 2 0 0 T12_isRight 34 [(0, .inr (.inr (some (12, 0)))), (2, .inl (l2)), (3, .inl (l3)), (4, .inl (l4))] [] h (some (.inl res.1)) res.2 := by
  induction n with
  | zero =>
    intro l2 l3 l4 h res H
    cases H
  | succ n ih =>
    intro l2 l3 l4 h res H
    exact E12_isRight_34b (F12_isRight_34 n) ih l2 l3 l4 h res H
set_option maxRecDepth 100000 in
set_option maxHeartbeats 4000000 in
theorem C12_isRight {l1 : Int} {h : JM} {res : (Int × JM)} (H : F12_isRight l1 h = some res) : Cn j_W1 2 0 0 yX12_isRight cX12_isRight 8 (some .boolean) [.inr (.inr (some (12, 0))), .inl (l1)] h (some (.inl res.1)) res.2 := by
  refine Cn.by (own := RX12) (b := false) [(0, .inr (.inr (some (12, 0)))), (1, .inl (l1))] rfl (fun z => by cases z) (by decide +kernel) (K := ?_)
  unfold F12_isRight at H
  refine ev_sipush (M := T12_isRight) (pc := 0) dX12_isRight_0 (k := ?_)
  refine ev_iload_n (M := T12_isRight) (pc := 3) 1 dX12_isRight_3 (k := ?_)
  refine ev_imul (M := T12_isRight) (pc := 4) dX12_isRight_4 (k := ?_)
  obtain ⟨x10, ex10, H1⟩ := lt_e H
  clear H
  refine ev_topI ex10 ?_
  refine ev_istore_n (M := T12_isRight) (pc := 5) [(2, .inl (x10)), (0, .inr (.inr (some (12, 0)))), (1, .inl (l1))] dX12_isRight_5 (k := ?_)
  refine ev_iload_n (M := T12_isRight) (pc := 6) 0 dX12_isRight_6 (k := ?_)
  refine ev_aload_n (M := T12_isRight) (pc := 7) 1 dX12_isRight_7 (k := ?_)
  refine ev_getR (M := T12_isRight) (pc := 8) (t := 174) (x := some (174, 0)) fl_X12_213 dX12_isRight_8 (hx := ry_12_74 _ _) (K := ?_)
  refine ev_iload_n (M := T12_isRight) (pc := 11) 2 dX12_isRight_11 (k := ?_)
  obtain ⟨⟨hi0, hi1⟩, H2⟩ := g_e H1
  clear H1
  refine ev_iaload (M := T12_isRight) (pc := 12) (k := 174) hi0 hi1 dX12_isRight_12 (hc := ac_174) (hlen := ln_174 _ _) (K := ?_)
  refine ev_iadd (M := T12_isRight) (pc := 13) dX12_isRight_13 (k := ?_)
  obtain ⟨x11, ex11, H3⟩ := lt_e H2
  clear H2
  refine ev_topI ex11 ?_
  refine ev_istore_n (M := T12_isRight) (pc := 14) [(3, .inl (x11)), (2, .inl (x10)), (0, .inr (.inr (some (12, 0)))), (1, .inl (l1))] dX12_isRight_14 (k := ?_)
  refine ev_aload_n (M := T12_isRight) (pc := 15) 2 dX12_isRight_15 (k := ?_)
  refine ev_getR (M := T12_isRight) (pc := 16) (t := 173) (x := some (173, 0)) fl_X12_210 dX12_isRight_16 (hx := ry_12_73 _ _) (K := ?_)
  refine ev_iload_n (M := T12_isRight) (pc := 19) 1 dX12_isRight_19 (k := ?_)
  obtain ⟨q12, hq, H4⟩ := bd_e H3
  clear H3
  refine ev_callS (M := T12_isRight) (pc := 20) (mc := 0) (ms := 0) (st := []) (C12_isFlag hq) md_X12_isFlag ss_X12_isFlag ml_X12_446 dX12_isRight_20 _ (by decide) (K := ?_)
  refine ev_ifne (M := T12_isRight) (pc := 23) 28 dX12_isRight_23 (kt := fun hc => ?_) (kf := fun hc => ?_)
  · replace H4 := if_ne hc H4
    refine ev_iload_n (M := T12_isRight) (pc := 28) 1 dX12_isRight_28 (k := ?_)
    refine ev_bipush (M := T12_isRight) (pc := 29) dX12_isRight_29 (k := ?_)
    refine ev_iadd (M := T12_isRight) (pc := 31) dX12_isRight_31 (k := ?_)
    obtain ⟨x13, ex13, H5⟩ := lt_e H4
    clear H4
    refine ev_topI ex13 ?_
    refine ev_istore (M := T12_isRight) (pc := 32) [(4, .inl (x13)), (3, .inl (x11)), (2, .inl (x10)), (0, .inr (.inr (some (12, 0)))), (1, .inl (l1))] dX12_isRight_32 (k := ?_)
    refine ev_lv [3, 2, 1, 0] [(0, .inr (.inr (some (12, 0)))), (2, .inl (x10)), (3, .inl (x11)), (4, .inl (x13))] (k := ?_)
    exact E12_isRight_34 j_fu x10 x11 x13 q12.2 _ H5
  · replace H4 := if_pe hc H4
    refine ev_iconst (M := T12_isRight) (pc := 26) dX12_isRight_26 (k := ?_)
    cases H4
    exact ev_zreturn (M := T12_isRight) (pc := 27) (Or.inl rfl) dX12_isRight_27
-- X12_key
abbrev T12_key : JT := (RX12, cX12_key, 2, some .int, false)
set_option maxRecDepth 100000 in
set_option maxHeartbeats 4000000 in
theorem C12_key {l1 : Int} {h : JM} {res : (Int × JM)} (H : F12_key l1 h = some res) : Cn j_W1 2 0 0 yX12_key cX12_key 2 (some .int) [.inr (.inr (some (12, 0))), .inl (l1)] h (some (.inl res.1)) res.2 := by
  refine Cn.by (own := RX12) (b := false) [(0, .inr (.inr (some (12, 0)))), (1, .inl (l1))] rfl (fun z => by cases z) (by decide +kernel) (K := ?_)
  unfold F12_key at H
  refine ev_iload_n (M := T12_key) (pc := 0) 1 dX12_key_0 (k := ?_)
  refine ev_i2l (M := T12_key) (pc := 1) dX12_key_1 (k := ?_)
  refine ev_lconst (M := T12_key) (pc := 2) (v := 0) dX12_key_2 (k := ?_)
  refine ev_ldc2 (M := T12_key) (pc := 3) (n := 11) cl_X12_266 dX12_key_3 (hv := cw_X12_266) (k := ?_)
  obtain ⟨q1, hq, H1⟩ := bd_e H
  clear H
  refine ev_callS (M := T12_key) (pc := 6) (mc := 0) (ms := 0) (st := []) (C12_in hq) md_X12_in ss_X12_in ml_X12_268 dX12_key_6 _ (by decide) (K := ?_)
  refine ev_ifne (M := T12_key) (pc := 9) 15 dX12_key_9 (kt := fun hc => ?_) (kf := fun hc => ?_)
  · replace H1 := if_ne hc H1
    refine ev_aload_n (M := T12_key) (pc := 15) 0 dX12_key_15 (k := ?_)
    refine ev_getI (M := T12_key) (pc := 16) (x := q1.2.1 12 0 4) fl_X12_272 dX12_key_16 (K := ?_)
    refine ev_bipush (M := T12_key) (pc := 19) dX12_key_19 (k := ?_)
    refine ev_icmpne (M := T12_key) (pc := 21) 27 dX12_key_21 (kt := fun hc => ?_) (kf := fun hc => ?_)
    · replace H1 := if_ne hc H1
      refine ev_aload_n (M := T12_key) (pc := 27) 0 dX12_key_27 (k := ?_)
      refine ev_getR (M := T12_key) (pc := 28) (t := 103) (x := some (103, 0)) fl_X12_9 dX12_key_28 (hx := ry_12_3 _ _) (K := ?_)
      refine ev_aload_n (M := T12_key) (pc := 31) 0 dX12_key_31 (k := ?_)
      refine ev_dup (M := T12_key) (pc := 32) dX12_key_32 (k := ?_)
      refine ev_getI (M := T12_key) (pc := 33) (x := q1.2.1 12 0 4) fl_X12_272 dX12_key_33 (K := ?_)
      refine ev_dup_x1 (M := T12_key) (pc := 36) dX12_key_36 (k := ?_)
      refine ev_iconst (M := T12_key) (pc := 37) dX12_key_37 (k := ?_)
      refine ev_iadd (M := T12_key) (pc := 38) dX12_key_38 (k := ?_)
      obtain ⟨h2, eh2, H2⟩ := lt_e H1
      clear H1
      refine ev_putI (M := T12_key) (pc := 39) j_ok1 fl_X12_272 eh2 dX12_key_39 (K := ?_)
      refine ev_iload_n (M := T12_key) (pc := 42) 1 dX12_key_42 (k := ?_)
      obtain ⟨⟨hi0, hi1⟩, H3⟩ := g_e H2
      clear H2
      obtain ⟨h3, eh3, H4⟩ := lt_e H3
      clear H3
      refine ev_iastore (M := T12_key) (pc := 43) (k := 103) j_ok1 hi0 hi1 eh3 dX12_key_43 (hc := ac_103) (hlen := ln_103 _ _) (K := ?_)
      refine ev_aload_n (M := T12_key) (pc := 44) 0 dX12_key_44 (k := ?_)
      refine ev_getI (M := T12_key) (pc := 45) (x := h3.1 12 0 4) fl_X12_272 dX12_key_45 (K := ?_)
      cases H4
      exact ev_ireturn (M := T12_key) (pc := 48) dX12_key_48
    · replace H1 := if_pe hc H1
      refine ev_bipush (M := T12_key) (pc := 24) dX12_key_24 (k := ?_)
      cases H1
      exact ev_ireturn (M := T12_key) (pc := 26) dX12_key_26
  · replace H1 := if_pe hc H1
    refine ev_bipush (M := T12_key) (pc := 12) dX12_key_12 (k := ?_)
    cases H1
    exact ev_ireturn (M := T12_key) (pc := 14) dX12_key_14
-- X12_keyComes
abbrev T12_keyComes : JT := (RX12, cX12_keyComes, 5, none, false)
set_option maxRecDepth 100000 in
set_option maxHeartbeats 4000000 in
theorem C12_keyComes {l1 : Int} {l2 : Int} {h : JM} {res : JM} (H : F12_keyComes l1 l2 h = some res) : Cn j_W1 89 0 0 yX12_keyComes cX12_keyComes 5 none [.inr (.inr (some (12, 0))), .inl (l1), .inl (l2)] h none res := by
  refine Cn.by (own := RX12) (b := false) [(0, .inr (.inr (some (12, 0)))), (1, .inl (l1)), (2, .inl (l2))] rfl (fun z => by cases z) (by decide +kernel) (K := ?_)
  unfold F12_keyComes at H
  refine ev_aload_n (M := T12_keyComes) (pc := 0) 0 dX12_keyComes_0 (k := ?_)
  refine ev_getR (M := T12_keyComes) (pc := 1) (t := 119) (x := some (119, 0)) fl_X12_56 dX12_keyComes_1 (hx := ry_12_19 _ _) (K := ?_)
  refine ev_iload_n (M := T12_keyComes) (pc := 4) 1 dX12_keyComes_4 (k := ?_)
  obtain ⟨⟨hi0, hi1⟩, H1⟩ := g_e H
  clear H
  refine ev_iaload (M := T12_keyComes) (pc := 5) (k := 119) hi0 hi1 dX12_keyComes_5 (hc := ac_119) (hlen := ln_119 _ _) (K := ?_)
  obtain ⟨x1, ex1, H2⟩ := lt_e H1
  clear H1
  refine ev_topI ex1 ?_
  refine ev_istore_n (M := T12_keyComes) (pc := 6) [(3, .inl (x1)), (0, .inr (.inr (some (12, 0)))), (1, .inl (l1)), (2, .inl (l2))] dX12_keyComes_6 (k := ?_)
  refine ev_iload_n (M := T12_keyComes) (pc := 7) 0 dX12_keyComes_7 (k := ?_)
  refine ev_iconst (M := T12_keyComes) (pc := 8) dX12_keyComes_8 (k := ?_)
  refine ev_icmpeq (M := T12_keyComes) (pc := 9) 21 dX12_keyComes_9 (kt := fun hc => ?_) (kf := fun hc => ?_)
  · replace H2 := if_pe hc H2
    cases H2
    exact ev_return (M := T12_keyComes) (pc := 21) dX12_keyComes_21
  · replace H2 := if_ne hc H2
    refine ev_aload_n (M := T12_keyComes) (pc := 12) 1 dX12_keyComes_12 (k := ?_)
    refine ev_getR (M := T12_keyComes) (pc := 13) (t := 133) (x := some (133, 0)) fl_X12_95 dX12_keyComes_13 (hx := ry_12_33 _ _) (K := ?_)
    refine ev_iload_n (M := T12_keyComes) (pc := 16) 0 dX12_keyComes_16 (k := ?_)
    obtain ⟨⟨hi0, hi1⟩, H3⟩ := g_e H2
    clear H2
    refine ev_iaload (M := T12_keyComes) (pc := 17) (k := 133) hi0 hi1 dX12_keyComes_17 (hc := ac_133) (hlen := ln_133 _ _) (K := ?_)
    refine ev_ifeq (M := T12_keyComes) (pc := 18) 22 dX12_keyComes_18 (kt := fun hc => ?_) (kf := fun hc => ?_)
    · replace H3 := if_pe hc H3
      refine ev_aload_n (M := T12_keyComes) (pc := 22) 1 dX12_keyComes_22 (k := ?_)
      refine ev_getR (M := T12_keyComes) (pc := 23) (t := 139) (x := some (139, 0)) fl_X12_113 dX12_keyComes_23 (hx := ry_12_39 _ _) (K := ?_)
      refine ev_bipush (M := T12_keyComes) (pc := 26) dX12_keyComes_26 (k := ?_)
      refine ev_iload_n (M := T12_keyComes) (pc := 28) 0 dX12_keyComes_28 (k := ?_)
      refine ev_imul (M := T12_keyComes) (pc := 29) dX12_keyComes_29 (k := ?_)
      refine ev_aload_n (M := T12_keyComes) (pc := 30) 1 dX12_keyComes_30 (k := ?_)
      refine ev_getR (M := T12_keyComes) (pc := 31) (t := 140) (x := some (140, 0)) fl_X12_116 dX12_keyComes_31 (hx := ry_12_40 _ _) (K := ?_)
      refine ev_iload_n (M := T12_keyComes) (pc := 34) 0 dX12_keyComes_34 (k := ?_)
      refine ev_dup2 (M := T12_keyComes) (pc := 35) dX12_keyComes_35 (k := ?_)
      obtain ⟨⟨hi0, hi1⟩, H4⟩ := g_e H3
      clear H3
      refine ev_iaload (M := T12_keyComes) (pc := 36) (k := 140) hi0 hi1 dX12_keyComes_36 (hc := ac_140) (hlen := ln_140 _ _) (K := ?_)
      refine ev_dup_x2 (M := T12_keyComes) (pc := 37) dX12_keyComes_37 (k := ?_)
      refine ev_iconst (M := T12_keyComes) (pc := 38) dX12_keyComes_38 (k := ?_)
      refine ev_iadd (M := T12_keyComes) (pc := 39) dX12_keyComes_39 (k := ?_)
      obtain ⟨⟨hi0, hi1⟩, H5⟩ := g_e H4
      clear H4
      obtain ⟨h2, eh2, H6⟩ := lt_e H5
      clear H5
      refine ev_iastore (M := T12_keyComes) (pc := 40) (k := 140) j_ok1 hi0 hi1 eh2 dX12_keyComes_40 (hc := ac_140) (hlen := ln_140 _ _) (K := ?_)
      refine ev_iadd (M := T12_keyComes) (pc := 41) dX12_keyComes_41 (k := ?_)
      refine ev_iload_n (M := T12_keyComes) (pc := 42) 3 dX12_keyComes_42 (k := ?_)
      obtain ⟨⟨hi0, hi1⟩, H7⟩ := g_e H6
      clear H6
      obtain ⟨h3, eh3, H8⟩ := lt_e H7
      clear H7
      refine ev_iastore (M := T12_keyComes) (pc := 43) (k := 139) j_ok1 hi0 hi1 eh3 dX12_keyComes_43 (hc := ac_139) (hlen := ln_139 _ _) (K := ?_)
      refine ev_aload_n (M := T12_keyComes) (pc := 44) 1 dX12_keyComes_44 (k := ?_)
      refine ev_getR (M := T12_keyComes) (pc := 45) (t := 145) (x := some (145, 0)) fl_X12_131 dX12_keyComes_45 (hx := ry_12_45 _ _) (K := ?_)
      refine ev_iload_n (M := T12_keyComes) (pc := 48) 0 dX12_keyComes_48 (k := ?_)
      refine ev_aload_n (M := T12_keyComes) (pc := 49) 1 dX12_keyComes_49 (k := ?_)
      refine ev_getI (M := T12_keyComes) (pc := 50) (x := h3.1 12 0 2) fl_X12_285 dX12_keyComes_50 (K := ?_)
      obtain ⟨⟨hi0, hi1⟩, H9⟩ := g_e H8
      clear H8
      obtain ⟨h4, eh4, H10⟩ := lt_e H9
      clear H9
      refine ev_iastore (M := T12_keyComes) (pc := 53) (k := 145) j_ok1 hi0 hi1 eh4 dX12_keyComes_53 (hc := ac_145) (hlen := ln_145 _ _) (K := ?_)
      refine ev_aload_n (M := T12_keyComes) (pc := 54) 1 dX12_keyComes_54 (k := ?_)
      refine ev_iload_n (M := T12_keyComes) (pc := 55) 0 dX12_keyComes_55 (k := ?_)
      obtain ⟨q5, hq, H11⟩ := bd_e H10
      clear H10
      refine ev_callV (M := T12_keyComes) (pc := 56) (mc := 0) (ms := 0) (st := []) (C12_analysis hq) md_X12_analysis im_X12_analysis se_X12_analysis ml_X12_327 dX12_keyComes_56 _ (by decide) (K := ?_)
      refine ev_istore (M := T12_keyComes) (pc := 59) [(4, .inl (q5.1)), (3, .inl (x1)), (0, .inr (.inr (some (12, 0)))), (1, .inl (l1)), (2, .inl (l2))] dX12_keyComes_59 (k := ?_)
      refine ev_iload (M := T12_keyComes) (pc := 61) 0 dX12_keyComes_61 (k := ?_)
      refine ev_bipush (M := T12_keyComes) (pc := 63) dX12_keyComes_63 (k := ?_)
      refine ev_icmpne (M := T12_keyComes) (pc := 65) 78 dX12_keyComes_65 (kt := fun hc => ?_) (kf := fun hc => ?_)
      · replace H11 := if_ne hc H11
        refine ev_iload (M := T12_keyComes) (pc := 78) 0 dX12_keyComes_78 (k := ?_)
        refine ev_iconst (M := T12_keyComes) (pc := 80) dX12_keyComes_80 (k := ?_)
        refine ev_icmpeq (M := T12_keyComes) (pc := 81) 91 dX12_keyComes_81 (kt := fun hc => ?_) (kf := fun hc => ?_)
        · replace H11 := if_pe hc H11
          cases H11
          exact ev_return (M := T12_keyComes) (pc := 91) dX12_keyComes_91
        · replace H11 := if_ne hc H11
          refine ev_aload_n (M := T12_keyComes) (pc := 84) 2 dX12_keyComes_84 (k := ?_)
          refine ev_iload_n (M := T12_keyComes) (pc := 85) 1 dX12_keyComes_85 (k := ?_)
          refine ev_iload (M := T12_keyComes) (pc := 86) 0 dX12_keyComes_86 (k := ?_)
          obtain ⟨h6, hq, H12⟩ := bd_e H11
          clear H11
          refine ev_callV (M := T12_keyComes) (pc := 88) (mc := 0) (ms := 0) (st := []) (C12_placesN 8 _ _ _ _ hq) md_X12_places im_X12_places se_X12_places ml_X12_331 dX12_keyComes_88 _ (by decide) (K := ?_)
          cases H12
          exact ev_return (M := T12_keyComes) (pc := 91) dX12_keyComes_91
      · replace H11 := if_pe hc H11
        refine ev_aload_n (M := T12_keyComes) (pc := 68) 2 dX12_keyComes_68 (k := ?_)
        refine ev_iload_n (M := T12_keyComes) (pc := 69) 1 dX12_keyComes_69 (k := ?_)
        refine ev_iconst (M := T12_keyComes) (pc := 70) dX12_keyComes_70 (k := ?_)
        refine ev_iconst (M := T12_keyComes) (pc := 71) dX12_keyComes_71 (k := ?_)
        obtain ⟨h7, hq, H12⟩ := bd_e H11
        clear H11
        refine ev_callV (M := T12_keyComes) (pc := 72) (mc := 0) (ms := 0) (st := []) (C12_over hq) md_X12_over im_X12_over se_X12_over ml_X12_323 dX12_keyComes_72 _ (by decide) (K := ?_)
        refine ev_goto (M := T12_keyComes) (pc := 75) 91 dX12_keyComes_75 (k := ?_)
        cases H12
        exact ev_return (M := T12_keyComes) (pc := 91) dX12_keyComes_91
    · replace H3 := if_ne hc H3
      cases H3
      exact ev_return (M := T12_keyComes) (pc := 21) dX12_keyComes_21
