-- X4_keyOfThisTick
abbrev T4_keyOfThisTick : JT := (RX4, cX4_keyOfThisTick, 3, some .int, false)
set_option maxRecDepth 100000 in
set_option maxHeartbeats 4000000 in
theorem E4_keyOfThisTick_97b (k97 : Int → Int → Int → JM → Option (Int × JM)) (hk97 : ∀ (l0 : Int) (l1 : Int) (l2 : Int) (h : JM) (res : (Int × JM)), k97 l0 l1 l2 h = some res → Ev j_W1 1 0 0 T4_keyOfThisTick 97 [(0, .inr (.inr (some (4, l0)))), (1, .inl (l1)), (2, .inl (l2))] [] h (some (.inl res.1)) res.2) (l0 : Int) (l1 : Int) (l2 : Int) (h : JM) (res : (Int × JM)) (H : F4_keyOfThisTick_97b k97 l0 l1 l2 h = some res) : Ev j_W1 1 0 0 T4_keyOfThisTick 97 [(0, .inr (.inr (some (4, l0)))), (1, .inl (l1)), (2, .inl (l2))] [] h (some (.inl res.1)) res.2 := by
  unfold F4_keyOfThisTick_97b at H
  refine ev_iload_n (M := T4_keyOfThisTick) (pc := 97) 2 dX4_keyOfThisTick_97 (k := ?_)
  refine ev_aload_n (M := T4_keyOfThisTick) (pc := 98) 0 dX4_keyOfThisTick_98 (k := ?_)
  refine ev_getI (M := T4_keyOfThisTick) (pc := 99) (x := h.1 4 l0 4) fl_X4_65 dX4_keyOfThisTick_99 (K := ?_)
  refine ev_icmpge (M := T4_keyOfThisTick) (pc := 102) 125 dX4_keyOfThisTick_102 (kt := fun hc => ?_) (kf := fun hc => ?_)
  · replace H := if_pe hc H
    refine ev_iload_n (M := T4_keyOfThisTick) (pc := 125) 1 dX4_keyOfThisTick_125 (k := ?_)
    cases H
    exact ev_ireturn (M := T4_keyOfThisTick) (pc := 126) dX4_keyOfThisTick_126
  · replace H := if_ne hc H
    refine ev_aload_n (M := T4_keyOfThisTick) (pc := 105) 0 dX4_keyOfThisTick_105 (k := ?_)
    refine ev_getR (M := T4_keyOfThisTick) (pc := 106) (t := 30) (x := some (30, l0)) fl_X4_19 dX4_keyOfThisTick_106 (hx := ry_4_3 _ _) (K := ?_)
    refine ev_iload_n (M := T4_keyOfThisTick) (pc := 109) 2 dX4_keyOfThisTick_109 (k := ?_)
    refine ev_aload_n (M := T4_keyOfThisTick) (pc := 110) 0 dX4_keyOfThisTick_110 (k := ?_)
    refine ev_getR (M := T4_keyOfThisTick) (pc := 111) (t := 30) (x := some (30, l0)) fl_X4_19 dX4_keyOfThisTick_111 (hx := ry_4_3 _ _) (K := ?_)
    refine ev_iload_n (M := T4_keyOfThisTick) (pc := 114) 2 dX4_keyOfThisTick_114 (k := ?_)
    refine ev_iconst (M := T4_keyOfThisTick) (pc := 115) dX4_keyOfThisTick_115 (k := ?_)
    refine ev_iadd (M := T4_keyOfThisTick) (pc := 116) dX4_keyOfThisTick_116 (k := ?_)
    obtain ⟨⟨hi0, hi1⟩, H1⟩ := g_e H
    clear H
    refine ev_baload (M := T4_keyOfThisTick) (pc := 117) (k := 30) hi0 hi1 dX4_keyOfThisTick_117 (hc := ac_30) (hlen := ln_30 _ _) (K := ?_)
    obtain ⟨⟨hi0, hi1⟩, H2⟩ := g_e H1
    clear H1
    obtain ⟨h1, eh1, H3⟩ := lt_e H2
    clear H2
    refine ev_bastore (M := T4_keyOfThisTick) (pc := 118) (k := 30) j_ok1 hi0 hi1 eh1 dX4_keyOfThisTick_118 (hc := ac_30) (hlen := ln_30 _ _) (K := ?_)
    refine ev_iinc (M := T4_keyOfThisTick) (pc := 119) 2 [(2, .inl (w32 (l2 + 1))), (0, .inr (.inr (some (4, l0)))), (1, .inl (l1))] dX4_keyOfThisTick_119 (k := ?_)
    refine ev_goto (M := T4_keyOfThisTick) (pc := 122) 97 dX4_keyOfThisTick_122 (k := ?_)
    refine ev_lv [1, 2, 0] [(0, .inr (.inr (some (4, l0)))), (1, .inl (l1)), (2, .inl (w32 (l2 + 1)))] (k := ?_)
    exact hk97 l0 l1 (w32 (l2 + 1)) h1 _ H3
theorem E4_keyOfThisTick_97 (n : Nat) : ∀ (l0 : Int) (l1 : Int) (l2 : Int) (h : JM) (res : (Int × JM)), F4_keyOfThisTick_97 n l0 l1 l2 h = some res → Ev j_W1 1 0 0 T4_keyOfThisTick 97 [(0, .inr (.inr (some (4, l0)))), (1, .inl (l1)), (2, .inl (l2))] [] h (some (.inl res.1)) res.2 := by
  induction n with
  | zero =>
    intro l0 l1 l2 h res H
    cases H
  | succ n ih =>
    intro l0 l1 l2 h res H
    exact E4_keyOfThisTick_97b (F4_keyOfThisTick_97 n) ih l0 l1 l2 h res H
set_option maxRecDepth 100000 in
set_option maxHeartbeats 4000000 in
theorem E4_keyOfThisTick_14 (h : JM) (res : (Int × JM)) (H : F4_keyOfThisTick_14 h = some res) : Ev j_W1 1 0 0 T4_keyOfThisTick 14 [] [] h (some (.inl res.1)) res.2 := by
  unfold F4_keyOfThisTick_14 at H
  refine ev_iconst (M := T4_keyOfThisTick) (pc := 14) dX4_keyOfThisTick_14 (k := ?_)
  cases H
  exact ev_ireturn (M := T4_keyOfThisTick) (pc := 15) dX4_keyOfThisTick_15
set_option maxRecDepth 100000 in
set_option maxHeartbeats 4000000 in
theorem C4_keyOfThisTick {l0 : Int} {h : JM} {res : (Int × JM)} (H : F4_keyOfThisTick l0 h = some res) : Cn j_W1 1 0 0 yX4_keyOfThisTick cX4_keyOfThisTick 3 (some .int) [.inr (.inr (some (4, l0)))] h (some (.inl res.1)) res.2 := by
  refine Cn.by (own := RX4) (b := false) [(0, .inr (.inr (some (4, l0))))] rfl (fun z => by cases z) (by decide +kernel) (K := ?_)
  unfold F4_keyOfThisTick at H
  refine ev_aload_n (M := T4_keyOfThisTick) (pc := 0) 0 dX4_keyOfThisTick_0 (k := ?_)
  refine ev_getI (M := T4_keyOfThisTick) (pc := 1) (x := h.1 4 l0 6) fl_X4_30 dX4_keyOfThisTick_1 (K := ?_)
  refine ev_ifeq (M := T4_keyOfThisTick) (pc := 4) 14 dX4_keyOfThisTick_4 (kt := fun hc => ?_) (kf := fun hc => ?_)
  · replace H := if_pe hc H
    refine ev_lv [] [] (k := ?_)
    exact E4_keyOfThisTick_14 h _ H
  · replace H := if_ne hc H
    refine ev_aload_n (M := T4_keyOfThisTick) (pc := 7) 0 dX4_keyOfThisTick_7 (k := ?_)
    refine ev_getI (M := T4_keyOfThisTick) (pc := 8) (x := h.1 4 l0 5) fl_X4_49 dX4_keyOfThisTick_8 (K := ?_)
    refine ev_ifne (M := T4_keyOfThisTick) (pc := 11) 16 dX4_keyOfThisTick_11 (kt := fun hc => ?_) (kf := fun hc => ?_)
    · replace H := if_ne hc H
      refine ev_aload_n (M := T4_keyOfThisTick) (pc := 16) 0 dX4_keyOfThisTick_16 (k := ?_)
      refine ev_getI (M := T4_keyOfThisTick) (pc := 17) (x := h.1 4 l0 10) fl_X4_59 dX4_keyOfThisTick_17 (K := ?_)
      refine ev_ifle (M := T4_keyOfThisTick) (pc := 20) 69 dX4_keyOfThisTick_20 (kt := fun hc => ?_) (kf := fun hc => ?_)
      · replace H := if_pe hc H
        refine ev_aload_n (M := T4_keyOfThisTick) (pc := 69) 0 dX4_keyOfThisTick_69 (k := ?_)
        refine ev_getI (M := T4_keyOfThisTick) (pc := 70) (x := h.1 4 l0 4) fl_X4_65 dX4_keyOfThisTick_70 (K := ?_)
        refine ev_ifne (M := T4_keyOfThisTick) (pc := 73) 78 dX4_keyOfThisTick_73 (kt := fun hc => ?_) (kf := fun hc => ?_)
        · replace H := if_ne hc H
          refine ev_aload_n (M := T4_keyOfThisTick) (pc := 78) 0 dX4_keyOfThisTick_78 (k := ?_)
          refine ev_getR (M := T4_keyOfThisTick) (pc := 79) (t := 30) (x := some (30, l0)) fl_X4_19 dX4_keyOfThisTick_79 (hx := ry_4_3 _ _) (K := ?_)
          refine ev_iconst (M := T4_keyOfThisTick) (pc := 82) dX4_keyOfThisTick_82 (k := ?_)
          obtain ⟨⟨hi0, hi1⟩, H1⟩ := g_e H
          clear H
          refine ev_baload (M := T4_keyOfThisTick) (pc := 83) (k := 30) hi0 hi1 dX4_keyOfThisTick_83 (hc := ac_30) (hlen := ln_30 _ _) (K := ?_)
          obtain ⟨x2, ex2, H2⟩ := lt_e H1
          clear H1
          refine ev_topI ex2 ?_
          refine ev_istore_n (M := T4_keyOfThisTick) (pc := 84) [(1, .inl (x2)), (0, .inr (.inr (some (4, l0))))] dX4_keyOfThisTick_84 (k := ?_)
          refine ev_aload_n (M := T4_keyOfThisTick) (pc := 85) 1 dX4_keyOfThisTick_85 (k := ?_)
          refine ev_dup (M := T4_keyOfThisTick) (pc := 86) dX4_keyOfThisTick_86 (k := ?_)
          refine ev_getI (M := T4_keyOfThisTick) (pc := 87) (x := h.1 4 l0 4) fl_X4_65 dX4_keyOfThisTick_87 (K := ?_)
          refine ev_iconst (M := T4_keyOfThisTick) (pc := 90) dX4_keyOfThisTick_90 (k := ?_)
          refine ev_isub (M := T4_keyOfThisTick) (pc := 91) dX4_keyOfThisTick_91 (k := ?_)
          obtain ⟨h3, eh3, H3⟩ := lt_e H2
          clear H2
          refine ev_putI (M := T4_keyOfThisTick) (pc := 92) j_ok1 fl_X4_65 eh3 dX4_keyOfThisTick_92 (K := ?_)
          refine ev_iconst (M := T4_keyOfThisTick) (pc := 95) dX4_keyOfThisTick_95 (k := ?_)
          refine ev_istore_n (M := T4_keyOfThisTick) (pc := 96) [(2, .inl (0)), (1, .inl (x2)), (0, .inr (.inr (some (4, l0))))] dX4_keyOfThisTick_96 (k := ?_)
          refine ev_lv [2, 1, 0] [(0, .inr (.inr (some (4, l0)))), (1, .inl (x2)), (2, .inl (0))] (k := ?_)
          exact E4_keyOfThisTick_97 j_fu l0 x2 0 h3 _ H3
        · replace H := if_pe hc H
          refine ev_iconst (M := T4_keyOfThisTick) (pc := 76) dX4_keyOfThisTick_76 (k := ?_)
          cases H
          exact ev_ireturn (M := T4_keyOfThisTick) (pc := 77) dX4_keyOfThisTick_77
      · replace H := if_ne hc H
        refine ev_aload_n (M := T4_keyOfThisTick) (pc := 23) 0 dX4_keyOfThisTick_23 (k := ?_)
        refine ev_dup (M := T4_keyOfThisTick) (pc := 24) dX4_keyOfThisTick_24 (k := ?_)
        refine ev_getI (M := T4_keyOfThisTick) (pc := 25) (x := h.1 4 l0 9) fl_X4_62 dX4_keyOfThisTick_25 (K := ?_)
        refine ev_iconst (M := T4_keyOfThisTick) (pc := 28) dX4_keyOfThisTick_28 (k := ?_)
        refine ev_iadd (M := T4_keyOfThisTick) (pc := 29) dX4_keyOfThisTick_29 (k := ?_)
        obtain ⟨h4, eh4, H1⟩ := lt_e H
        clear H
        refine ev_putI (M := T4_keyOfThisTick) (pc := 30) j_ok1 fl_X4_62 eh4 dX4_keyOfThisTick_30 (K := ?_)
        refine ev_aload_n (M := T4_keyOfThisTick) (pc := 33) 0 dX4_keyOfThisTick_33 (k := ?_)
        refine ev_getI (M := T4_keyOfThisTick) (pc := 34) (x := h4.1 4 l0 9) fl_X4_62 dX4_keyOfThisTick_34 (K := ?_)
        refine ev_bipush (M := T4_keyOfThisTick) (pc := 37) dX4_keyOfThisTick_37 (k := ?_)
        refine ev_icmpge (M := T4_keyOfThisTick) (pc := 39) 44 dX4_keyOfThisTick_39 (kt := fun hc => ?_) (kf := fun hc => ?_)
        · replace H1 := if_pe hc H1
          refine ev_aload_n (M := T4_keyOfThisTick) (pc := 44) 0 dX4_keyOfThisTick_44 (k := ?_)
          refine ev_getI (M := T4_keyOfThisTick) (pc := 45) (x := h4.1 4 l0 10) fl_X4_59 dX4_keyOfThisTick_45 (K := ?_)
          obtain ⟨x5, ex5, H2⟩ := lt_e H1
          clear H1
          refine ev_topI ex5 ?_
          refine ev_istore_n (M := T4_keyOfThisTick) (pc := 48) [(1, .inl (x5)), (0, .inr (.inr (some (4, l0))))] dX4_keyOfThisTick_48 (k := ?_)
          refine ev_aload_n (M := T4_keyOfThisTick) (pc := 49) 1 dX4_keyOfThisTick_49 (k := ?_)
          refine ev_iconst (M := T4_keyOfThisTick) (pc := 50) dX4_keyOfThisTick_50 (k := ?_)
          obtain ⟨h6, eh6, H3⟩ := lt_e H2
          clear H2
          refine ev_putI (M := T4_keyOfThisTick) (pc := 51) j_ok1 fl_X4_59 eh6 dX4_keyOfThisTick_51 (K := ?_)
          refine ev_iload_n (M := T4_keyOfThisTick) (pc := 54) 0 dX4_keyOfThisTick_54 (k := ?_)
          refine ev_bipush (M := T4_keyOfThisTick) (pc := 55) dX4_keyOfThisTick_55 (k := ?_)
          refine ev_icmpgt (M := T4_keyOfThisTick) (pc := 57) 67 dX4_keyOfThisTick_57 (kt := fun hc => ?_) (kf := fun hc => ?_)
          · replace H3 := if_pe hc H3
            refine ev_iconst (M := T4_keyOfThisTick) (pc := 67) dX4_keyOfThisTick_67 (k := ?_)
            cases H3
            exact ev_ireturn (M := T4_keyOfThisTick) (pc := 68) dX4_keyOfThisTick_68
          · replace H3 := if_ne hc H3
            refine ev_iload_n (M := T4_keyOfThisTick) (pc := 60) 0 dX4_keyOfThisTick_60 (k := ?_)
            refine ev_bipush (M := T4_keyOfThisTick) (pc := 61) dX4_keyOfThisTick_61 (k := ?_)
            refine ev_irem (M := T4_keyOfThisTick) (pc := 63) dX4_keyOfThisTick_63 (by decide) (k := ?_)
            refine ev_goto (M := T4_keyOfThisTick) (pc := 64) 68 dX4_keyOfThisTick_64 (k := ?_)
            cases H3
            exact ev_ireturn (M := T4_keyOfThisTick) (pc := 68) dX4_keyOfThisTick_68
        · replace H1 := if_ne hc H1
          refine ev_iconst (M := T4_keyOfThisTick) (pc := 42) dX4_keyOfThisTick_42 (k := ?_)
          cases H1
          exact ev_ireturn (M := T4_keyOfThisTick) (pc := 43) dX4_keyOfThisTick_43
    · replace H := if_pe hc H
      refine ev_lv [] [] (k := ?_)
      exact E4_keyOfThisTick_14 h _ H
-- X4_lookAtLoop
abbrev T4_lookAtLoop : JT := (RX4, cX4_lookAtLoop, 2, some .int, false)
set_option maxRecDepth 100000 in
set_option maxHeartbeats 4000000 in
theorem E4_lookAtLoop_104 (h : JM) (res : (Int × JM)) (H : F4_lookAtLoop_104 h = some res) : Ev j_W1 2 0 0 T4_lookAtLoop 104 [] [] h (some (.inl res.1)) res.2 := by
  unfold F4_lookAtLoop_104 at H
  refine ev_iconst (M := T4_lookAtLoop) (pc := 104) dX4_lookAtLoop_104 (k := ?_)
  cases H
  exact ev_ireturn (M := T4_lookAtLoop) (pc := 105) dX4_lookAtLoop_105
set_option maxRecDepth 100000 in
set_option maxHeartbeats 4000000 in
theorem C4_lookAtLoop {l0 : Int} {h : JM} {res : (Int × JM)} (H : F4_lookAtLoop l0 h = some res) : Cn j_W1 2 0 0 yX4_lookAtLoop cX4_lookAtLoop 2 (some .int) [.inr (.inr (some (4, l0)))] h (some (.inl res.1)) res.2 := by
  refine Cn.by (own := RX4) (b := false) [(0, .inr (.inr (some (4, l0))))] rfl (fun z => by cases z) (by decide +kernel) (K := ?_)
  unfold F4_lookAtLoop at H
  refine ev_aload_n (M := T4_lookAtLoop) (pc := 0) 0 dX4_lookAtLoop_0 (k := ?_)
  refine ev_getI (M := T4_lookAtLoop) (pc := 1) (x := h.1 4 l0 6) fl_X4_30 dX4_lookAtLoop_1 (K := ?_)
  refine ev_ifne (M := T4_lookAtLoop) (pc := 4) 25 dX4_lookAtLoop_4 (kt := fun hc => ?_) (kf := fun hc => ?_)
  · replace H := if_ne hc H
    refine ev_aload_n (M := T4_lookAtLoop) (pc := 25) 0 dX4_lookAtLoop_25 (k := ?_)
    refine ev_getI (M := T4_lookAtLoop) (pc := 26) (x := h.1 4 l0 5) fl_X4_49 dX4_lookAtLoop_26 (K := ?_)
    refine ev_ifne (M := T4_lookAtLoop) (pc := 29) 62 dX4_lookAtLoop_29 (kt := fun hc => ?_) (kf := fun hc => ?_)
    · replace H := if_ne hc H
      refine ev_aload_n (M := T4_lookAtLoop) (pc := 62) 0 dX4_lookAtLoop_62 (k := ?_)
      refine ev_getI (M := T4_lookAtLoop) (pc := 63) (x := h.1 4 l0 8) fl_X4_56 dX4_lookAtLoop_63 (K := ?_)
      obtain ⟨x1, ex1, H1⟩ := lt_e H
      clear H
      refine ev_topI ex1 ?_
      refine ev_istore_n (M := T4_lookAtLoop) (pc := 66) [(1, .inl (x1)), (0, .inr (.inr (some (4, l0))))] dX4_lookAtLoop_66 (k := ?_)
      refine ev_aload_n (M := T4_lookAtLoop) (pc := 67) 1 dX4_lookAtLoop_67 (k := ?_)
      refine ev_iconst (M := T4_lookAtLoop) (pc := 68) dX4_lookAtLoop_68 (k := ?_)
      obtain ⟨h2, eh2, H2⟩ := lt_e H1
      clear H1
      refine ev_putI (M := T4_lookAtLoop) (pc := 69) j_ok1 fl_X4_56 eh2 dX4_lookAtLoop_69 (K := ?_)
      refine ev_iload_n (M := T4_lookAtLoop) (pc := 72) 0 dX4_lookAtLoop_72 (k := ?_)
      refine ev_bipush (M := T4_lookAtLoop) (pc := 73) dX4_lookAtLoop_73 (k := ?_)
      refine ev_icmplt (M := T4_lookAtLoop) (pc := 75) 85 dX4_lookAtLoop_75 (kt := fun hc => ?_) (kf := fun hc => ?_)
      · replace H2 := if_pe hc H2
        refine ev_iload_n (M := T4_lookAtLoop) (pc := 85) 0 dX4_lookAtLoop_85 (k := ?_)
        refine ev_ifle (M := T4_lookAtLoop) (pc := 86) 104 dX4_lookAtLoop_86 (kt := fun hc => ?_) (kf := fun hc => ?_)
        · replace H2 := if_pe hc H2
          refine ev_lv [] [] (k := ?_)
          exact E4_lookAtLoop_104 h2 _ H2
        · replace H2 := if_ne hc H2
          refine ev_aload_n (M := T4_lookAtLoop) (pc := 89) 1 dX4_lookAtLoop_89 (k := ?_)
          refine ev_dup (M := T4_lookAtLoop) (pc := 90) dX4_lookAtLoop_90 (k := ?_)
          refine ev_getI (M := T4_lookAtLoop) (pc := 91) (x := h2.1 4 l0 10) fl_X4_59 dX4_lookAtLoop_91 (K := ?_)
          refine ev_iconst (M := T4_lookAtLoop) (pc := 94) dX4_lookAtLoop_94 (k := ?_)
          refine ev_iadd (M := T4_lookAtLoop) (pc := 95) dX4_lookAtLoop_95 (k := ?_)
          obtain ⟨h3, eh3, H3⟩ := lt_e H2
          clear H2
          refine ev_putI (M := T4_lookAtLoop) (pc := 96) j_ok1 fl_X4_59 eh3 dX4_lookAtLoop_96 (K := ?_)
          refine ev_aload_n (M := T4_lookAtLoop) (pc := 99) 1 dX4_lookAtLoop_99 (k := ?_)
          refine ev_iconst (M := T4_lookAtLoop) (pc := 100) dX4_lookAtLoop_100 (k := ?_)
          obtain ⟨h4, eh4, H4⟩ := lt_e H3
          clear H3
          refine ev_putI (M := T4_lookAtLoop) (pc := 101) j_ok1 fl_X4_62 eh4 dX4_lookAtLoop_101 (K := ?_)
          refine ev_lv [] [] (k := ?_)
          exact E4_lookAtLoop_104 h4 _ H4
      · replace H2 := if_ne hc H2
        refine ev_aload_n (M := T4_lookAtLoop) (pc := 78) 1 dX4_lookAtLoop_78 (k := ?_)
        refine ev_iconst (M := T4_lookAtLoop) (pc := 79) dX4_lookAtLoop_79 (k := ?_)
        obtain ⟨h5, eh5, H3⟩ := lt_e H2
        clear H2
        refine ev_putI (M := T4_lookAtLoop) (pc := 80) j_ok1 fl_X4_59 eh5 dX4_lookAtLoop_80 (K := ?_)
        refine ev_iconst (M := T4_lookAtLoop) (pc := 83) dX4_lookAtLoop_83 (k := ?_)
        cases H3
        exact ev_ireturn (M := T4_lookAtLoop) (pc := 84) dX4_lookAtLoop_84
    · replace H := if_pe hc H
      refine ev_aload_n (M := T4_lookAtLoop) (pc := 32) 0 dX4_lookAtLoop_32 (k := ?_)
      refine ev_dup (M := T4_lookAtLoop) (pc := 33) dX4_lookAtLoop_33 (k := ?_)
      refine ev_getI (M := T4_lookAtLoop) (pc := 34) (x := h.1 4 l0 8) fl_X4_56 dX4_lookAtLoop_34 (K := ?_)
      refine ev_iconst (M := T4_lookAtLoop) (pc := 37) dX4_lookAtLoop_37 (k := ?_)
      refine ev_iadd (M := T4_lookAtLoop) (pc := 38) dX4_lookAtLoop_38 (k := ?_)
      obtain ⟨h6, eh6, H1⟩ := lt_e H
      clear H
      refine ev_putI (M := T4_lookAtLoop) (pc := 39) j_ok1 fl_X4_56 eh6 dX4_lookAtLoop_39 (K := ?_)
      refine ev_aload_n (M := T4_lookAtLoop) (pc := 42) 0 dX4_lookAtLoop_42 (k := ?_)
      refine ev_getI (M := T4_lookAtLoop) (pc := 43) (x := h6.1 4 l0 8) fl_X4_56 dX4_lookAtLoop_43 (K := ?_)
      refine ev_bipush (M := T4_lookAtLoop) (pc := 46) dX4_lookAtLoop_46 (k := ?_)
      refine ev_icmplt (M := T4_lookAtLoop) (pc := 48) 60 dX4_lookAtLoop_48 (kt := fun hc => ?_) (kf := fun hc => ?_)
      · replace H1 := if_pe hc H1
        refine ev_iconst (M := T4_lookAtLoop) (pc := 60) dX4_lookAtLoop_60 (k := ?_)
        cases H1
        exact ev_ireturn (M := T4_lookAtLoop) (pc := 61) dX4_lookAtLoop_61
      · replace H1 := if_ne hc H1
        refine ev_aload_n (M := T4_lookAtLoop) (pc := 51) 0 dX4_lookAtLoop_51 (k := ?_)
        refine ev_iconst (M := T4_lookAtLoop) (pc := 52) dX4_lookAtLoop_52 (k := ?_)
        refine ev_iconst (M := T4_lookAtLoop) (pc := 53) dX4_lookAtLoop_53 (k := ?_)
        obtain ⟨q7, hq, H2⟩ := bd_e H1
        clear H1
        refine ev_callV (M := T4_lookAtLoop) (pc := 54) (mc := 0) (ms := 0) (st := []) (C4_change hq) md_X4_change im_X4_change se_X4_change ml_X4_52 dX4_lookAtLoop_54 _ (by decide) (K := ?_)
        refine ev_goto (M := T4_lookAtLoop) (pc := 57) 61 dX4_lookAtLoop_57 (k := ?_)
        cases H2
        exact ev_ireturn (M := T4_lookAtLoop) (pc := 61) dX4_lookAtLoop_61
  · replace H := if_pe hc H
    refine ev_aload_n (M := T4_lookAtLoop) (pc := 7) 0 dX4_lookAtLoop_7 (k := ?_)
    refine ev_getI (M := T4_lookAtLoop) (pc := 8) (x := h.1 4 l0 5) fl_X4_49 dX4_lookAtLoop_8 (K := ?_)
    refine ev_ifeq (M := T4_lookAtLoop) (pc := 11) 23 dX4_lookAtLoop_11 (kt := fun hc => ?_) (kf := fun hc => ?_)
    · replace H := if_pe hc H
      refine ev_iconst (M := T4_lookAtLoop) (pc := 23) dX4_lookAtLoop_23 (k := ?_)
      cases H
      exact ev_ireturn (M := T4_lookAtLoop) (pc := 24) dX4_lookAtLoop_24
    · replace H := if_ne hc H
      refine ev_aload_n (M := T4_lookAtLoop) (pc := 14) 0 dX4_lookAtLoop_14 (k := ?_)
      refine ev_iconst (M := T4_lookAtLoop) (pc := 15) dX4_lookAtLoop_15 (k := ?_)
      refine ev_iconst (M := T4_lookAtLoop) (pc := 16) dX4_lookAtLoop_16 (k := ?_)
      obtain ⟨q8, hq, H1⟩ := bd_e H
      clear H
      refine ev_callV (M := T4_lookAtLoop) (pc := 17) (mc := 0) (ms := 0) (st := []) (C4_change hq) md_X4_change im_X4_change se_X4_change ml_X4_52 dX4_lookAtLoop_17 _ (by decide) (K := ?_)
      refine ev_goto (M := T4_lookAtLoop) (pc := 20) 24 dX4_lookAtLoop_20 (k := ?_)
      cases H1
      exact ev_ireturn (M := T4_lookAtLoop) (pc := 24) dX4_lookAtLoop_24
-- X4_sound
abbrev T4_sound : JT := (RX4, cX4_sound, 1, some .int, false)
set_option maxRecDepth 100000 in
set_option maxHeartbeats 4000000 in
theorem E4_sound_118 (h : JM) (res : (Int × JM)) (H : F4_sound_118 h = some res) : Ev j_W1 1 0 0 T4_sound 118 [] [] h (some (.inl res.1)) res.2 := by
  unfold F4_sound_118 at H
  refine ev_bipush (M := T4_sound) (pc := 118) dX4_sound_118 (k := ?_)
  cases H
  exact ev_ireturn (M := T4_sound) (pc := 120) dX4_sound_120
set_option maxRecDepth 100000 in
set_option maxHeartbeats 4000000 in
theorem C4_sound {l0 : Int} {h : JM} {res : (Int × JM)} (H : F4_sound l0 h = some res) : Cn j_W1 1 0 0 yX4_sound cX4_sound 1 (some .int) [.inr (.inr (some (4, l0)))] h (some (.inl res.1)) res.2 := by
  refine Cn.by (own := RX4) (b := false) [(0, .inr (.inr (some (4, l0))))] rfl (fun z => by cases z) (by decide +kernel) (K := ?_)
  unfold F4_sound at H
  refine ev_aload_n (M := T4_sound) (pc := 0) 0 dX4_sound_0 (k := ?_)
  refine ev_getI (M := T4_sound) (pc := 1) (x := h.1 4 l0 6) fl_X4_30 dX4_sound_1 (K := ?_)
  refine ev_ifne (M := T4_sound) (pc := 4) 20 dX4_sound_4 (kt := fun hc => ?_) (kf := fun hc => ?_)
  · replace H := if_ne hc H
    refine ev_aload_n (M := T4_sound) (pc := 20) 0 dX4_sound_20 (k := ?_)
    refine ev_getR (M := T4_sound) (pc := 21) (t := 0) (x := Option.map (Prod.mk 0) (h.2.2 4 l0 11)) fl_X4_38 dX4_sound_21 (hx := ry_4_11 _ _) (K := ?_)
    refine ev_nonnullK (M := T4_sound) (pc := 24) (h.2.2 4 l0 11) 32 dX4_sound_24 (kt := fun hc => ?_) (kf := fun hc => ?_)
    · replace H := if_ne hc H
      refine ev_aload_n (M := T4_sound) (pc := 32) 0 dX4_sound_32 (k := ?_)
      refine ev_getR (M := T4_sound) (pc := 33) (t := 0) (x := Option.map (Prod.mk 0) (h.2.2 4 l0 11)) fl_X4_38 dX4_sound_33 (hx := ry_4_11 _ _) (K := ?_)
      obtain ⟨a1, ea1, H1⟩ := bd_e H
      clear H
      rw [ea1]
      refine ev_getI (M := T4_sound) (pc := 36) (x := h.1 0 a1 9) fl_X4_41 dX4_sound_36 (K := ?_)
      by_cases hs0 : h.1 0 a1 9 = 0
      · replace H1 := if_pe hs0 H1
        refine ev_tableIn (M := T4_sound) (pc := 39) (off := 33) 72 dX4_sound_39 (by omega) (by omega) (by rw [hs0]; rfl) (k := ?_)
        refine ev_aload_n (M := T4_sound) (pc := 72) 0 dX4_sound_72 (k := ?_)
        refine ev_getR (M := T4_sound) (pc := 73) (t := 0) (x := Option.map (Prod.mk 0) (h.2.2 4 l0 11)) fl_X4_38 dX4_sound_73 (hx := ry_4_11 _ _) (K := ?_)
        obtain ⟨a2, ea2, H2⟩ := bd_e H1
        clear H1
        rw [ea2]
        refine ev_getL (M := T4_sound) (pc := 76) (x := h.2.1 0 a2 8) fl_X4_71 dX4_sound_76 (K := ?_)
        refine ev_lconst (M := T4_sound) (pc := 79) (v := 0) dX4_sound_79 (k := ?_)
        refine ev_lcmp (M := T4_sound) (pc := 80) dX4_sound_80 (k := ?_)
        refine ev_ifne (M := T4_sound) (pc := 81) 88 dX4_sound_81 (kt := fun hc => ?_) (kf := fun hc => ?_)
        · replace H2 := if_ne hc H2
          refine ev_iconst (M := T4_sound) (pc := 88) dX4_sound_88 (k := ?_)
          cases H2
          exact ev_ireturn (M := T4_sound) (pc := 89) dX4_sound_89
        · replace H2 := if_pe hc H2
          refine ev_iconst (M := T4_sound) (pc := 84) dX4_sound_84 (k := ?_)
          refine ev_goto (M := T4_sound) (pc := 85) 89 dX4_sound_85 (k := ?_)
          cases H2
          exact ev_ireturn (M := T4_sound) (pc := 89) dX4_sound_89
      · replace H1 := if_ne hs0 H1
        by_cases hs1 : h.1 0 a1 9 = 2
        · replace H1 := if_pe hs1 H1
          refine ev_tableIn (M := T4_sound) (pc := 39) (off := 51) 90 dX4_sound_39 (by omega) (by omega) (by rw [hs1]; rfl) (k := ?_)
          refine ev_iconst (M := T4_sound) (pc := 90) dX4_sound_90 (k := ?_)
          cases H1
          exact ev_ireturn (M := T4_sound) (pc := 91) dX4_sound_91
        · replace H1 := if_ne hs1 H1
          by_cases hs2 : h.1 0 a1 9 = 3
          · replace H1 := if_pe hs2 H1
            refine ev_tableIn (M := T4_sound) (pc := 39) (off := 56) 95 dX4_sound_39 (by omega) (by omega) (by rw [hs2]; rfl) (k := ?_)
            refine ev_aload_n (M := T4_sound) (pc := 95) 0 dX4_sound_95 (k := ?_)
            refine ev_getR (M := T4_sound) (pc := 96) (t := 0) (x := Option.map (Prod.mk 0) (h.2.2 4 l0 12)) fl_X4_46 dX4_sound_96 (hx := ry_4_12 _ _) (K := ?_)
            refine ev_nullK (M := T4_sound) (pc := 99) (h.2.2 4 l0 12) 118 dX4_sound_99 (kt := fun hc => ?_) (kf := fun hc => ?_)
            · replace H1 := if_pe hc H1
              refine ev_lv [] [] (k := ?_)
              exact E4_sound_118 h _ H1
            · replace H1 := if_ne hc H1
              refine ev_aload_n (M := T4_sound) (pc := 102) 0 dX4_sound_102 (k := ?_)
              refine ev_getR (M := T4_sound) (pc := 103) (t := 0) (x := Option.map (Prod.mk 0) (h.2.2 4 l0 12)) fl_X4_46 dX4_sound_103 (hx := ry_4_12 _ _) (K := ?_)
              obtain ⟨a3, ea3, H2⟩ := bd_e H1
              clear H1
              rw [ea3]
              refine ev_getI (M := T4_sound) (pc := 106) (x := h.1 0 a3 9) fl_X4_41 dX4_sound_106 (K := ?_)
              refine ev_iconst (M := T4_sound) (pc := 109) dX4_sound_109 (k := ?_)
              refine ev_icmpne (M := T4_sound) (pc := 110) 118 dX4_sound_110 (kt := fun hc => ?_) (kf := fun hc => ?_)
              · replace H2 := if_ne hc H2
                refine ev_lv [] [] (k := ?_)
                exact E4_sound_118 h _ H2
              · replace H2 := if_pe hc H2
                refine ev_bipush (M := T4_sound) (pc := 113) dX4_sound_113 (k := ?_)
                refine ev_goto (M := T4_sound) (pc := 115) 120 dX4_sound_115 (k := ?_)
                cases H2
                exact ev_ireturn (M := T4_sound) (pc := 120) dX4_sound_120
          · replace H1 := if_ne hs2 H1
            by_cases hs3 : h.1 0 a1 9 = 4
            · replace H1 := if_pe hs3 H1
              refine ev_tableIn (M := T4_sound) (pc := 39) (off := 53) 92 dX4_sound_39 (by omega) (by omega) (by rw [hs3]; rfl) (k := ?_)
              refine ev_bipush (M := T4_sound) (pc := 92) dX4_sound_92 (k := ?_)
              cases H1
              exact ev_ireturn (M := T4_sound) (pc := 94) dX4_sound_94
            · replace H1 := if_ne hs3 H1
              rcases (show (h.1 0 a1 9 < 0 ∨ 4 < h.1 0 a1 9) ∨ (h.1 0 a1 9 = 1) by omega) with hz | hz
              · refine ev_tableOut (M := T4_sound) (pc := 39) 121 dX4_sound_39 hz (k := ?_)
                refine ev_iconst (M := T4_sound) (pc := 121) dX4_sound_121 (k := ?_)
                cases H1
                exact ev_ireturn (M := T4_sound) (pc := 122) dX4_sound_122
              · refine ev_tableIn (M := T4_sound) (pc := 39) (off := 82) 121 dX4_sound_39 (by omega) (by omega) (by rw [hz]; rfl) (k := ?_)
                refine ev_iconst (M := T4_sound) (pc := 121) dX4_sound_121 (k := ?_)
                cases H1
                exact ev_ireturn (M := T4_sound) (pc := 122) dX4_sound_122
    · replace H := if_pe hc H
      refine ev_aload_n (M := T4_sound) (pc := 27) 0 dX4_sound_27 (k := ?_)
      refine ev_getI (M := T4_sound) (pc := 28) (x := h.1 4 l0 15) fl_X4_68 dX4_sound_28 (K := ?_)
      cases H
      exact ev_ireturn (M := T4_sound) (pc := 31) dX4_sound_31
  · replace H := if_pe hc H
    refine ev_aload_n (M := T4_sound) (pc := 7) 0 dX4_sound_7 (k := ?_)
    refine ev_getR (M := T4_sound) (pc := 8) (t := 0) (x := Option.map (Prod.mk 0) (h.2.2 4 l0 13)) fl_X4_34 dX4_sound_8 (hx := ry_4_13 _ _) (K := ?_)
    refine ev_nullK (M := T4_sound) (pc := 11) (h.2.2 4 l0 13) 18 dX4_sound_11 (kt := fun hc => ?_) (kf := fun hc => ?_)
    · replace H := if_pe hc H
      refine ev_iconst (M := T4_sound) (pc := 18) dX4_sound_18 (k := ?_)
      cases H
      exact ev_ireturn (M := T4_sound) (pc := 19) dX4_sound_19
    · replace H := if_ne hc H
      refine ev_iconst (M := T4_sound) (pc := 14) dX4_sound_14 (k := ?_)
      refine ev_goto (M := T4_sound) (pc := 15) 19 dX4_sound_15 (k := ?_)
      cases H
      exact ev_ireturn (M := T4_sound) (pc := 19) dX4_sound_19
-- X5_fill
abbrev T5_fill : JT := (RX5, cX5_fill, 2, none, false)
set_option maxRecDepth 100000 in
set_option maxHeartbeats 4000000 in
theorem E5_fill_78 (l0 : Int) (l1 : Option Int) (h : JM) (res : JM) (H : F5_fill_78 l0 l1 h = some res) : Ev j_W1 1 0 0 T5_fill 78 [(0, .inr (.inr (some (5, l0)))), (1, .inr (.inr (Option.map (Prod.mk 9) (l1))))] [] h none res := by
  unfold F5_fill_78 at H
  refine ev_aload_n (M := T5_fill) (pc := 78) 1 dX5_fill_78 (k := ?_)
  refine ev_aload_n (M := T5_fill) (pc := 79) 0 dX5_fill_79 (k := ?_)
  refine ev_getI (M := T5_fill) (pc := 80) (x := h.1 5 l0 2) fl_X5_44 dX5_fill_80 (K := ?_)
  refine ev_bipush (M := T5_fill) (pc := 83) dX5_fill_83 (k := ?_)
  refine ev_iand (M := T5_fill) (pc := 85) dX5_fill_85 (k := ?_)
  obtain ⟨a1, ea1, H1⟩ := bd_e H
  clear H
  rw [ea1]
  obtain ⟨h2, eh2, H2⟩ := lt_e H1
  clear H1
  refine ev_putI (M := T5_fill) (pc := 86) j_ok1 fl_X5_50 eh2 dX5_fill_86 (K := ?_)
  refine ev_aload_n (M := T5_fill) (pc := 89) 1 dX5_fill_89 (k := ?_)
  refine ev_aload_n (M := T5_fill) (pc := 90) 0 dX5_fill_90 (k := ?_)
  refine ev_getI (M := T5_fill) (pc := 91) (x := h2.1 5 l0 4) fl_X5_53 dX5_fill_91 (K := ?_)
  refine ev_bipush (M := T5_fill) (pc := 94) dX5_fill_94 (k := ?_)
  refine ev_iand (M := T5_fill) (pc := 96) dX5_fill_96 (k := ?_)
  obtain ⟨h3, eh3, H3⟩ := lt_e H2
  clear H2
  refine ev_putI (M := T5_fill) (pc := 97) j_ok1 fl_X5_56 eh3 dX5_fill_97 (K := ?_)
  refine ev_aload_n (M := T5_fill) (pc := 100) 1 dX5_fill_100 (k := ?_)
  refine ev_aload_n (M := T5_fill) (pc := 101) 0 dX5_fill_101 (k := ?_)
  refine ev_getI (M := T5_fill) (pc := 102) (x := h3.1 5 l0 5) fl_X5_9 dX5_fill_102 (K := ?_)
  obtain ⟨h4, eh4, H4⟩ := lt_e H3
  clear H3
  refine ev_putI (M := T5_fill) (pc := 105) j_ok1 fl_X5_59 eh4 dX5_fill_105 (K := ?_)
  refine ev_aload_n (M := T5_fill) (pc := 108) 1 dX5_fill_108 (k := ?_)
  refine ev_aload_n (M := T5_fill) (pc := 109) 0 dX5_fill_109 (k := ?_)
  refine ev_getI (M := T5_fill) (pc := 110) (x := h4.1 5 l0 6) fl_X5_15 dX5_fill_110 (K := ?_)
  obtain ⟨h5, eh5, H5⟩ := lt_e H4
  clear H4
  refine ev_putI (M := T5_fill) (pc := 113) j_ok1 fl_X5_60 eh5 dX5_fill_113 (K := ?_)
  refine ev_aload_n (M := T5_fill) (pc := 116) 1 dX5_fill_116 (k := ?_)
  refine ev_iconst (M := T5_fill) (pc := 117) dX5_fill_117 (k := ?_)
  obtain ⟨h6, eh6, H6⟩ := lt_e H5
  clear H5
  refine ev_putI (M := T5_fill) (pc := 118) j_ok1 fl_X5_61 eh6 dX5_fill_118 (K := ?_)
  cases H6
  exact ev_return (M := T5_fill) (pc := 121) dX5_fill_121
set_option maxRecDepth 100000 in
set_option maxHeartbeats 4000000 in
theorem C5_fill {l0 : Int} {l1 : Option Int} {h : JM} {res : JM} (H : F5_fill l0 l1 h = some res) : Cn j_W1 1 0 0 yX5_fill cX5_fill 2 none [.inr (.inr (some (5, l0))), .inr (.inr (Option.map (Prod.mk 9) (l1)))] h none res := by
  refine Cn.by (own := RX5) (b := false) [(0, .inr (.inr (some (5, l0)))), (1, .inr (.inr (Option.map (Prod.mk 9) (l1))))] rfl (fun z => by cases z) (by decide +kernel) (K := ?_)
  unfold F5_fill at H
  refine ev_aload_n (M := T5_fill) (pc := 0) 1 dX5_fill_0 (k := ?_)
  refine ev_ldc2 (M := T5_fill) (pc := 1) (n := (-1)) cl_X5_38 dX5_fill_1 (hv := cw_X5_38) (k := ?_)
  obtain ⟨a7, ea7, H1⟩ := bd_e H
  clear H
  rw [ea7]
  obtain ⟨h8, eh8, H2⟩ := lt_e H1
  clear H1
  refine ev_putL (M := T5_fill) (pc := 4) j_ok1 fl_X5_40 eh8 dX5_fill_4 (K := ?_)
  refine ev_aload_n (M := T5_fill) (pc := 7) 0 dX5_fill_7 (k := ?_)
  refine ev_getI (M := T5_fill) (pc := 8) (x := h8.1 5 l0 2) fl_X5_44 dX5_fill_8 (K := ?_)
  refine ev_aload_n (M := T5_fill) (pc := 11) 0 dX5_fill_11 (k := ?_)
  refine ev_getI (M := T5_fill) (pc := 12) (x := h8.1 5 l0 0) fl_X5_32 dX5_fill_12 (K := ?_)
  refine ev_icmpge (M := T5_fill) (pc := 15) 78 dX5_fill_15 (kt := fun hc => ?_) (kf := fun hc => ?_)
  · replace H2 := if_pe hc H2
    exact E5_fill_78 l0 (some a7) h8 _ H2
  · replace H2 := if_ne hc H2
    refine ev_aload_n (M := T5_fill) (pc := 18) 0 dX5_fill_18 (k := ?_)
    refine ev_getI (M := T5_fill) (pc := 19) (x := h8.1 5 l0 2) fl_X5_44 dX5_fill_19 (K := ?_)
    refine ev_aload_n (M := T5_fill) (pc := 22) 0 dX5_fill_22 (k := ?_)
    refine ev_getI (M := T5_fill) (pc := 23) (x := h8.1 5 l0 1) fl_X5_35 dX5_fill_23 (K := ?_)
    refine ev_bipush (M := T5_fill) (pc := 26) dX5_fill_26 (k := ?_)
    refine ev_iadd (M := T5_fill) (pc := 28) dX5_fill_28 (k := ?_)
    refine ev_icmpge (M := T5_fill) (pc := 29) 78 dX5_fill_29 (kt := fun hc => ?_) (kf := fun hc => ?_)
    · replace H2 := if_pe hc H2
      exact E5_fill_78 l0 (some a7) h8 _ H2
    · replace H2 := if_ne hc H2
      refine ev_aload_n (M := T5_fill) (pc := 32) 1 dX5_fill_32 (k := ?_)
      refine ev_aload_n (M := T5_fill) (pc := 33) 0 dX5_fill_33 (k := ?_)
      refine ev_getR (M := T5_fill) (pc := 34) (t := 31) (x := some (31, l0)) fl_X5_18 dX5_fill_34 (hx := ry_5_8 _ _) (K := ?_)
      refine ev_aload_n (M := T5_fill) (pc := 37) 0 dX5_fill_37 (k := ?_)
      refine ev_getI (M := T5_fill) (pc := 38) (x := h8.1 5 l0 2) fl_X5_44 dX5_fill_38 (K := ?_)
      refine ev_sipush (M := T5_fill) (pc := 41) dX5_fill_41 (k := ?_)
      refine ev_irem (M := T5_fill) (pc := 44) dX5_fill_44 (by decide) (k := ?_)
      obtain ⟨⟨hi0, hi1⟩, H3⟩ := g_e H2
      clear H2
      refine ev_laload (M := T5_fill) (pc := 45) (k := 31) hi0 hi1 dX5_fill_45 (hc := ac_31) (hlen := ln_31 _ _) (K := ?_)
      obtain ⟨h9, eh9, H4⟩ := lt_e H3
      clear H3
      refine ev_putL (M := T5_fill) (pc := 46) j_ok1 fl_X5_40 eh9 dX5_fill_46 (K := ?_)
      refine ev_aload_n (M := T5_fill) (pc := 49) 0 dX5_fill_49 (k := ?_)
      refine ev_dup (M := T5_fill) (pc := 50) dX5_fill_50 (k := ?_)
      refine ev_getI (M := T5_fill) (pc := 51) (x := h9.1 5 l0 2) fl_X5_44 dX5_fill_51 (K := ?_)
      refine ev_iconst (M := T5_fill) (pc := 54) dX5_fill_54 (k := ?_)
      refine ev_iadd (M := T5_fill) (pc := 55) dX5_fill_55 (k := ?_)
      obtain ⟨h10, eh10, H5⟩ := lt_e H4
      clear H4
      refine ev_putI (M := T5_fill) (pc := 56) j_ok1 fl_X5_44 eh10 dX5_fill_56 (K := ?_)
      refine ev_aload_n (M := T5_fill) (pc := 59) 0 dX5_fill_59 (k := ?_)
      refine ev_getI (M := T5_fill) (pc := 60) (x := h10.1 5 l0 3) fl_X5_47 dX5_fill_60 (K := ?_)
      refine ev_aload_n (M := T5_fill) (pc := 63) 0 dX5_fill_63 (k := ?_)
      refine ev_getI (M := T5_fill) (pc := 64) (x := h10.1 5 l0 2) fl_X5_44 dX5_fill_64 (K := ?_)
      refine ev_icmpge (M := T5_fill) (pc := 67) 78 dX5_fill_67 (kt := fun hc => ?_) (kf := fun hc => ?_)
      · replace H5 := if_pe hc H5
        exact E5_fill_78 l0 (some a7) h10 _ H5
      · replace H5 := if_ne hc H5
        refine ev_aload_n (M := T5_fill) (pc := 70) 0 dX5_fill_70 (k := ?_)
        refine ev_aload_n (M := T5_fill) (pc := 71) 0 dX5_fill_71 (k := ?_)
        refine ev_getI (M := T5_fill) (pc := 72) (x := h10.1 5 l0 2) fl_X5_44 dX5_fill_72 (K := ?_)
        obtain ⟨h11, eh11, H6⟩ := lt_e H5
        clear H5
        refine ev_putI (M := T5_fill) (pc := 75) j_ok1 fl_X5_47 eh11 dX5_fill_75 (K := ?_)
        exact E5_fill_78 l0 (some a7) h11 _ H6
-- X5_post
abbrev T5_post : JT := (RX5, cX5_post, 3, none, false)
set_option maxRecDepth 100000 in
set_option maxHeartbeats 4000000 in
theorem C5_post {l0 : Int} {l1 : Int} {h : JM} {res : JM} (H : F5_post l0 l1 h = some res) : Cn j_W1 1 0 0 yX5_post cX5_post 3 none [.inr (.inr (some (5, l0))), .inr (.inl (l1))] h none res := by
  refine Cn.by (own := RX5) (b := false) [(0, .inr (.inr (some (5, l0)))), (1, .inr (.inl (l1)))] rfl (fun z => by cases z) (by decide +kernel) (K := ?_)
  unfold F5_post at H
  refine ev_aload_n (M := T5_post) (pc := 0) 0 dX5_post_0 (k := ?_)
  refine ev_getI (M := T5_post) (pc := 1) (x := h.1 5 l0 0) fl_X5_32 dX5_post_1 (K := ?_)
  refine ev_aload_n (M := T5_post) (pc := 4) 0 dX5_post_4 (k := ?_)
  refine ev_getI (M := T5_post) (pc := 5) (x := h.1 5 l0 1) fl_X5_35 dX5_post_5 (K := ?_)
  refine ev_isub (M := T5_post) (pc := 8) dX5_post_8 (k := ?_)
  refine ev_sipush (M := T5_post) (pc := 9) dX5_post_9 (k := ?_)
  refine ev_icmpge (M := T5_post) (pc := 12) 39 dX5_post_12 (kt := fun hc => ?_) (kf := fun hc => ?_)
  · replace H := if_pe hc H
    cases H
    exact ev_return (M := T5_post) (pc := 39) dX5_post_39
  · replace H := if_ne hc H
    refine ev_aload_n (M := T5_post) (pc := 15) 0 dX5_post_15 (k := ?_)
    refine ev_getR (M := T5_post) (pc := 16) (t := 31) (x := some (31, l0)) fl_X5_18 dX5_post_16 (hx := ry_5_8 _ _) (K := ?_)
    refine ev_aload_n (M := T5_post) (pc := 19) 0 dX5_post_19 (k := ?_)
    refine ev_getI (M := T5_post) (pc := 20) (x := h.1 5 l0 0) fl_X5_32 dX5_post_20 (K := ?_)
    refine ev_sipush (M := T5_post) (pc := 23) dX5_post_23 (k := ?_)
    refine ev_irem (M := T5_post) (pc := 26) dX5_post_26 (by decide) (k := ?_)
    refine ev_lload_n (M := T5_post) (pc := 27) 1 dX5_post_27 (k := ?_)
    obtain ⟨⟨hi0, hi1⟩, H1⟩ := g_e H
    clear H
    obtain ⟨h1, eh1, H2⟩ := lt_e H1
    clear H1
    refine ev_lastore (M := T5_post) (pc := 28) (k := 31) j_ok1 hi0 hi1 eh1 dX5_post_28 (hc := ac_31) (hlen := ln_31 _ _) (K := ?_)
    refine ev_aload_n (M := T5_post) (pc := 29) 0 dX5_post_29 (k := ?_)
    refine ev_dup (M := T5_post) (pc := 30) dX5_post_30 (k := ?_)
    refine ev_getI (M := T5_post) (pc := 31) (x := h1.1 5 l0 0) fl_X5_32 dX5_post_31 (K := ?_)
    refine ev_iconst (M := T5_post) (pc := 34) dX5_post_34 (k := ?_)
    refine ev_iadd (M := T5_post) (pc := 35) dX5_post_35 (k := ?_)
    obtain ⟨h2, eh2, H3⟩ := lt_e H2
    clear H2
    refine ev_putI (M := T5_post) (pc := 36) j_ok1 fl_X5_32 eh2 dX5_post_36 (K := ?_)
    cases H3
    exact ev_return (M := T5_post) (pc := 39) dX5_post_39
