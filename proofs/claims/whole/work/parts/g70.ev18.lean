-- X12_codeOf
abbrev T12_codeOf : JT := (RX12, cX12_codeOf, 6, some .int, false)
set_option maxRecDepth 100000 in
set_option maxHeartbeats 4000000 in
theorem E12_codeOf_128 (l4 : Int) (l5 : Int) (s0 : Int) (h : JM) (res : (Int × JM)) (H : F12_codeOf_128 l4 l5 s0 h = some res) : Ev j_W1 2 0 0 T12_codeOf 128 [(4, .inl (l4)), (5, .inl (l5))] [.inl (s0)] h (some (.inl res.1)) res.2 := by
  unfold F12_codeOf_128 at H
  refine ev_bipush (M := T12_codeOf) (pc := 128) dX12_codeOf_128 (k := ?_)
  refine ev_iload (M := T12_codeOf) (pc := 130) 0 dX12_codeOf_130 (k := ?_)
  refine ev_imul (M := T12_codeOf) (pc := 132) dX12_codeOf_132 (k := ?_)
  refine ev_iadd (M := T12_codeOf) (pc := 133) dX12_codeOf_133 (k := ?_)
  refine ev_iload (M := T12_codeOf) (pc := 134) 1 dX12_codeOf_134 (k := ?_)
  refine ev_iadd (M := T12_codeOf) (pc := 136) dX12_codeOf_136 (k := ?_)
  refine ev_bipush (M := T12_codeOf) (pc := 137) dX12_codeOf_137 (k := ?_)
  refine ev_ixor (M := T12_codeOf) (pc := 139) dX12_codeOf_139 (k := ?_)
  cases H
  exact ev_ireturn (M := T12_codeOf) (pc := 140) dX12_codeOf_140
set_option maxRecDepth 100000 in
set_option maxHeartbeats 4000000 in
theorem E12_codeOf_115 (l1 : Int) (l4 : Int) (s0 : Int) (h : JM) (res : (Int × JM)) (H : F12_codeOf_115 l1 l4 s0 h = some res) : Ev j_W1 2 0 0 T12_codeOf 115 [(1, .inl (l1)), (4, .inl (l4))] [.inl (s0)] h (some (.inl res.1)) res.2 := by
  unfold F12_codeOf_115 at H
  refine ev_istore (M := T12_codeOf) (pc := 115) [(5, .inl (s0)), (1, .inl (l1)), (4, .inl (l4))] dX12_codeOf_115 (k := ?_)
  refine ev_iload_n (M := T12_codeOf) (pc := 117) 1 dX12_codeOf_117 (k := ?_)
  refine ev_ifge (M := T12_codeOf) (pc := 118) 125 dX12_codeOf_118 (kt := fun hc => ?_) (kf := fun hc => ?_)
  · replace H := if_pe hc H
    refine ev_sipush (M := T12_codeOf) (pc := 125) dX12_codeOf_125 (k := ?_)
    refine ev_lv [2, 0] [(4, .inl (l4)), (5, .inl (s0))] (k := ?_)
    exact E12_codeOf_128 l4 s0 128 h _ H
  · replace H := if_ne hc H
    refine ev_iconst (M := T12_codeOf) (pc := 121) dX12_codeOf_121 (k := ?_)
    refine ev_goto (M := T12_codeOf) (pc := 122) 128 dX12_codeOf_122 (k := ?_)
    refine ev_lv [2, 0] [(4, .inl (l4)), (5, .inl (s0))] (k := ?_)
    exact E12_codeOf_128 l4 s0 0 h _ H
set_option maxRecDepth 100000 in
set_option maxHeartbeats 4000000 in
theorem E12_codeOf_94 (l1 : Int) (l3 : Int) (s0 : Int) (h : JM) (res : (Int × JM)) (H : F12_codeOf_94 l1 l3 s0 h = some res) : Ev j_W1 2 0 0 T12_codeOf 94 [(1, .inl (l1)), (3, .inl (l3))] [.inl (s0)] h (some (.inl res.1)) res.2 := by
  unfold F12_codeOf_94 at H
  refine ev_istore (M := T12_codeOf) (pc := 94) [(4, .inl (s0)), (1, .inl (l1)), (3, .inl (l3))] dX12_codeOf_94 (k := ?_)
  refine ev_iload_n (M := T12_codeOf) (pc := 96) 2 dX12_codeOf_96 (k := ?_)
  refine ev_bipush (M := T12_codeOf) (pc := 97) dX12_codeOf_97 (k := ?_)
  refine ev_icmpge (M := T12_codeOf) (pc := 99) 108 dX12_codeOf_99 (kt := fun hc => ?_) (kf := fun hc => ?_)
  · replace H := if_pe hc H
    refine ev_iload_n (M := T12_codeOf) (pc := 108) 2 dX12_codeOf_108 (k := ?_)
    refine ev_iload (M := T12_codeOf) (pc := 109) 0 dX12_codeOf_109 (k := ?_)
    refine ev_ishr (M := T12_codeOf) (pc := 111) dX12_codeOf_111 (k := ?_)
    refine ev_bipush (M := T12_codeOf) (pc := 112) dX12_codeOf_112 (k := ?_)
    refine ev_irem (M := T12_codeOf) (pc := 114) dX12_codeOf_114 (by decide) (k := ?_)
    refine ev_lv [1, 0] [(1, .inl (l1)), (4, .inl (s0))] (k := ?_)
    exact E12_codeOf_115 l1 s0 (j_rem (j_shr l3 s0) 16) h _ H
  · replace H := if_ne hc H
    refine ev_iload_n (M := T12_codeOf) (pc := 102) 2 dX12_codeOf_102 (k := ?_)
    refine ev_iconst (M := T12_codeOf) (pc := 103) dX12_codeOf_103 (k := ?_)
    refine ev_idiv (M := T12_codeOf) (pc := 104) dX12_codeOf_104 (by decide) (k := ?_)
    refine ev_goto (M := T12_codeOf) (pc := 105) 115 dX12_codeOf_105 (k := ?_)
    refine ev_lv [1, 0] [(1, .inl (l1)), (4, .inl (s0))] (k := ?_)
    exact E12_codeOf_115 l1 s0 (j_div l3 2) h _ H
set_option maxRecDepth 100000 in
set_option maxHeartbeats 4000000 in
theorem E12_codeOf_56 (l3 : Int) (l4 : Int) (s0 : Int) (s1 : Int) (h : JM) (res : (Int × JM)) (H : F12_codeOf_56 l3 l4 s0 s1 h = some res) : Ev j_W1 2 0 0 T12_codeOf 56 [(3, .inl (l3)), (4, .inl (l4))] [.inl (s1), .inl (s0)] h (some (.inl res.1)) res.2 := by
  unfold F12_codeOf_56 at H
  refine ev_isub (M := T12_codeOf) (pc := 56) dX12_codeOf_56 (k := ?_)
  refine ev_bipush (M := T12_codeOf) (pc := 57) dX12_codeOf_57 (k := ?_)
  refine ev_iload (M := T12_codeOf) (pc := 59) 1 dX12_codeOf_59 (k := ?_)
  refine ev_imul (M := T12_codeOf) (pc := 61) dX12_codeOf_61 (k := ?_)
  refine ev_isub (M := T12_codeOf) (pc := 62) dX12_codeOf_62 (k := ?_)
  refine ev_iload_n (M := T12_codeOf) (pc := 63) 0 dX12_codeOf_63 (k := ?_)
  refine ev_iload (M := T12_codeOf) (pc := 64) 1 dX12_codeOf_64 (k := ?_)
  refine ev_iconst (M := T12_codeOf) (pc := 66) dX12_codeOf_66 (k := ?_)
  refine ev_iadd (M := T12_codeOf) (pc := 67) dX12_codeOf_67 (k := ?_)
  refine ev_ishr (M := T12_codeOf) (pc := 68) dX12_codeOf_68 (k := ?_)
  refine ev_bipush (M := T12_codeOf) (pc := 69) dX12_codeOf_69 (k := ?_)
  refine ev_irem (M := T12_codeOf) (pc := 71) dX12_codeOf_71 (by decide) (k := ?_)
  refine ev_isub (M := T12_codeOf) (pc := 72) dX12_codeOf_72 (k := ?_)
  cases H
  exact ev_ireturn (M := T12_codeOf) (pc := 73) dX12_codeOf_73
set_option maxRecDepth 100000 in
set_option maxHeartbeats 4000000 in
theorem E12_codeOf_30 (l1 : Int) (s0 : Int) (h : JM) (res : (Int × JM)) (H : F12_codeOf_30 l1 s0 h = some res) : Ev j_W1 2 0 0 T12_codeOf 30 [(1, .inl (l1))] [.inl (s0)] h (some (.inl res.1)) res.2 := by
  unfold F12_codeOf_30 at H
  refine ev_bipush (M := T12_codeOf) (pc := 30) dX12_codeOf_30 (k := ?_)
  refine ev_iadd (M := T12_codeOf) (pc := 32) dX12_codeOf_32 (k := ?_)
  obtain ⟨x1, ex1, H1⟩ := lt_e H
  clear H
  refine ev_topI ex1 ?_
  refine ev_istore_n (M := T12_codeOf) (pc := 33) [(3, .inl (x1)), (1, .inl (l1))] dX12_codeOf_33 (k := ?_)
  refine ev_iload_n (M := T12_codeOf) (pc := 34) 0 dX12_codeOf_34 (k := ?_)
  obtain ⟨q2, hq, H2⟩ := bd_e H1
  clear H1
  refine ev_callS (M := T12_codeOf) (pc := 35) (mc := 0) (ms := 0) (st := []) (C12_highest hq) md_X12_highest ss_X12_highest ml_X12_462 dX12_codeOf_35 _ (by decide) (K := ?_)
  refine ev_iconst (M := T12_codeOf) (pc := 38) dX12_codeOf_38 (k := ?_)
  refine ev_isub (M := T12_codeOf) (pc := 39) dX12_codeOf_39 (k := ?_)
  obtain ⟨x3, ex3, H3⟩ := lt_e H2
  clear H2
  refine ev_topI ex3 ?_
  refine ev_istore (M := T12_codeOf) (pc := 40) [(4, .inl (x3)), (3, .inl (x1)), (1, .inl (l1))] dX12_codeOf_40 (k := ?_)
  refine ev_sipush (M := T12_codeOf) (pc := 42) dX12_codeOf_42 (k := ?_)
  refine ev_iload_n (M := T12_codeOf) (pc := 45) 2 dX12_codeOf_45 (k := ?_)
  refine ev_ifge (M := T12_codeOf) (pc := 46) 55 dX12_codeOf_46 (kt := fun hc => ?_) (kf := fun hc => ?_)
  · replace H3 := if_pe hc H3
    refine ev_iconst (M := T12_codeOf) (pc := 55) dX12_codeOf_55 (k := ?_)
    refine ev_lv [1, 0] [(3, .inl (x1)), (4, .inl (x3))] (k := ?_)
    exact E12_codeOf_56 x1 x3 255 0 q2.2 _ H3
  · replace H3 := if_ne hc H3
    refine ev_sipush (M := T12_codeOf) (pc := 49) dX12_codeOf_49 (k := ?_)
    refine ev_goto (M := T12_codeOf) (pc := 52) 56 dX12_codeOf_52 (k := ?_)
    refine ev_lv [1, 0] [(3, .inl (x1)), (4, .inl (x3))] (k := ?_)
    exact E12_codeOf_56 x1 x3 255 128 q2.2 _ H3
set_option maxRecDepth 100000 in
set_option maxHeartbeats 4000000 in
theorem E12_codeOf_10 (l0 : Int) (l1 : Int) (s0 : Int) (h : JM) (res : (Int × JM)) (H : F12_codeOf_10 l0 l1 s0 h = some res) : Ev j_W1 2 0 0 T12_codeOf 10 [(0, .inl (l0)), (1, .inl (l1))] [.inl (s0)] h (some (.inl res.1)) res.2 := by
  unfold F12_codeOf_10 at H
  refine ev_istore_n (M := T12_codeOf) (pc := 10) [(2, .inl (s0)), (0, .inl (l0)), (1, .inl (l1))] dX12_codeOf_10 (k := ?_)
  refine ev_iload_n (M := T12_codeOf) (pc := 11) 1 dX12_codeOf_11 (k := ?_)
  refine ev_iconst (M := T12_codeOf) (pc := 12) dX12_codeOf_12 (k := ?_)
  refine ev_icmpne (M := T12_codeOf) (pc := 13) 74 dX12_codeOf_13 (kt := fun hc => ?_) (kf := fun hc => ?_)
  · replace H := if_ne hc H
    refine ev_iload_n (M := T12_codeOf) (pc := 74) 0 dX12_codeOf_74 (k := ?_)
    refine ev_iconst (M := T12_codeOf) (pc := 75) dX12_codeOf_75 (k := ?_)
    refine ev_idiv (M := T12_codeOf) (pc := 76) dX12_codeOf_76 (by decide) (k := ?_)
    obtain ⟨x4, ex4, H1⟩ := lt_e H
    clear H
    refine ev_topI ex4 ?_
    refine ev_istore_n (M := T12_codeOf) (pc := 77) [(3, .inl (x4)), (2, .inl (s0)), (0, .inl (l0)), (1, .inl (l1))] dX12_codeOf_77 (k := ?_)
    refine ev_iload_n (M := T12_codeOf) (pc := 78) 0 dX12_codeOf_78 (k := ?_)
    refine ev_bipush (M := T12_codeOf) (pc := 79) dX12_codeOf_79 (k := ?_)
    refine ev_icmpge (M := T12_codeOf) (pc := 81) 88 dX12_codeOf_81 (kt := fun hc => ?_) (kf := fun hc => ?_)
    · replace H1 := if_pe hc H1
      refine ev_iload_n (M := T12_codeOf) (pc := 88) 0 dX12_codeOf_88 (k := ?_)
      obtain ⟨q5, hq, H2⟩ := bd_e H1
      clear H1
      refine ev_callS (M := T12_codeOf) (pc := 89) (mc := 0) (ms := 0) (st := []) (C12_highest hq) md_X12_highest ss_X12_highest ml_X12_462 dX12_codeOf_89 _ (by decide) (K := ?_)
      refine ev_iconst (M := T12_codeOf) (pc := 92) dX12_codeOf_92 (k := ?_)
      refine ev_isub (M := T12_codeOf) (pc := 93) dX12_codeOf_93 (k := ?_)
      refine ev_lv [3, 0] [(1, .inl (l1)), (3, .inl (x4))] (k := ?_)
      exact E12_codeOf_94 l1 x4 (w32 (q5.1 - 4)) q5.2 _ H2
    · replace H1 := if_ne hc H1
      refine ev_iconst (M := T12_codeOf) (pc := 84) dX12_codeOf_84 (k := ?_)
      refine ev_goto (M := T12_codeOf) (pc := 85) 94 dX12_codeOf_85 (k := ?_)
      refine ev_lv [3, 0] [(1, .inl (l1)), (3, .inl (x4))] (k := ?_)
      exact E12_codeOf_94 l1 x4 0 h _ H1
  · replace H := if_pe hc H
    refine ev_iload_n (M := T12_codeOf) (pc := 16) 0 dX12_codeOf_16 (k := ?_)
    refine ev_sipush (M := T12_codeOf) (pc := 17) dX12_codeOf_17 (k := ?_)
    refine ev_icmpge (M := T12_codeOf) (pc := 20) 27 dX12_codeOf_20 (kt := fun hc => ?_) (kf := fun hc => ?_)
    · replace H := if_pe hc H
      refine ev_sipush (M := T12_codeOf) (pc := 27) dX12_codeOf_27 (k := ?_)
      refine ev_lv [2] [(1, .inl (l1))] (k := ?_)
      exact E12_codeOf_30 l1 8158 h _ H
    · replace H := if_ne hc H
      refine ev_iload_n (M := T12_codeOf) (pc := 23) 0 dX12_codeOf_23 (k := ?_)
      refine ev_goto (M := T12_codeOf) (pc := 24) 30 dX12_codeOf_24 (k := ?_)
      refine ev_lv [2] [(1, .inl (l1))] (k := ?_)
      exact E12_codeOf_30 l1 s0 h _ H
set_option maxRecDepth 100000 in
set_option maxHeartbeats 4000000 in
theorem C12_codeOf {l0 : Int} {l1 : Int} {h : JM} {res : (Int × JM)} (H : F12_codeOf l0 l1 h = some res) : Cn j_W1 2 0 0 yX12_codeOf cX12_codeOf 6 (some .int) [.inl (l0), .inl (l1)] h (some (.inl res.1)) res.2 := by
  refine Cn.by (own := RX12) (b := false) [(0, .inl (l0)), (1, .inl (l1))] rfl (fun z => by cases z) (by decide +kernel) (K := ?_)
  unfold F12_codeOf at H
  refine ev_iload_n (M := T12_codeOf) (pc := 0) 1 dX12_codeOf_0 (k := ?_)
  refine ev_ifge (M := T12_codeOf) (pc := 1) 9 dX12_codeOf_1 (kt := fun hc => ?_) (kf := fun hc => ?_)
  · replace H := if_pe hc H
    refine ev_iload_n (M := T12_codeOf) (pc := 9) 1 dX12_codeOf_9 (k := ?_)
    exact E12_codeOf_10 l0 l1 l1 h _ H
  · replace H := if_ne hc H
    refine ev_iload_n (M := T12_codeOf) (pc := 4) 1 dX12_codeOf_4 (k := ?_)
    refine ev_ineg (M := T12_codeOf) (pc := 5) dX12_codeOf_5 (k := ?_)
    refine ev_goto (M := T12_codeOf) (pc := 6) 10 dX12_codeOf_6 (k := ?_)
    exact E12_codeOf_10 l0 l1 (w32 (-l1)) h _ H
-- X12_makes
abbrev T12_makes : JT := (RX12, cX12_makes, 4, some .int, false)
set_option maxRecDepth 100000 in
set_option maxHeartbeats 4000000 in
theorem E12_makes_2b (k2 : Int → Int → Int → JM → Option (Int × JM)) (hk2 : ∀ (l1 : Int) (l2 : Int) (l3 : Int) (h : JM) (res : (Int × JM)), k2 l1 l2 l3 h = some res → Ev j_W1 1 0 0 T12_makes 2 [(0, .inr (.inr (some (12, 0)))), (1, .inl (l1)), (2, .inl (l2)), (3, .inl (l3))] [] h (some (.inl res.1)) res.2) (l1 : Int) (l2 : Int) (l3 : Int) (h : JM) (res : (Int × JM)) (H : F12_makes_2b k2 l1 l2 l3 h = some res) : Ev j_W1 1 0 0 T12_makes 2 [(0, .inr (.inr (some (12, 0)))), (1, .inl (l1)), (2, .inl (l2)), (3, .inl (l3))] [] h (some (.inl res.1)) res.2 := by
  unfold F12_makes_2b at H
  refine ev_aload_n (M := T12_makes) (pc := 2) 0 dX12_makes_2 (k := ?_)
  refine ev_getR (M := T12_makes) (pc := 3) (t := 133) (x := some (133, 0)) fl_X12_95 dX12_makes_3 (hx := ry_12_33 _ _) (K := ?_)
  refine ev_iload_n (M := T12_makes) (pc := 6) 3 dX12_makes_6 (k := ?_)
  obtain ⟨⟨hi0, hi1⟩, H1⟩ := g_e H
  clear H
  refine ev_iaload (M := T12_makes) (pc := 7) (k := 133) hi0 hi1 dX12_makes_7 (hc := ac_133) (hlen := ln_133 _ _) (K := ?_)
  refine ev_iconst (M := T12_makes) (pc := 8) dX12_makes_8 (k := ?_)
  refine ev_icmpeq (M := T12_makes) (pc := 9) 18 dX12_makes_9 (kt := fun hc => ?_) (kf := fun hc => ?_)
  · replace H1 := if_pe hc H1
    refine ev_aload_n (M := T12_makes) (pc := 18) 0 dX12_makes_18 (k := ?_)
    refine ev_getR (M := T12_makes) (pc := 19) (t := 133) (x := some (133, 0)) fl_X12_95 dX12_makes_19 (hx := ry_12_33 _ _) (K := ?_)
    refine ev_iload_n (M := T12_makes) (pc := 22) 3 dX12_makes_22 (k := ?_)
    refine ev_iconst (M := T12_makes) (pc := 23) dX12_makes_23 (k := ?_)
    obtain ⟨⟨hi0, hi1⟩, H2⟩ := g_e H1
    clear H1
    obtain ⟨h1, eh1, H3⟩ := lt_e H2
    clear H2
    refine ev_iastore (M := T12_makes) (pc := 24) (k := 133) j_ok1 hi0 hi1 eh1 dX12_makes_24 (hc := ac_133) (hlen := ln_133 _ _) (K := ?_)
    refine ev_aload_n (M := T12_makes) (pc := 25) 0 dX12_makes_25 (k := ?_)
    refine ev_getR (M := T12_makes) (pc := 26) (t := 134) (x := some (134, 0)) fl_X12_98 dX12_makes_26 (hx := ry_12_34 _ _) (K := ?_)
    refine ev_iload_n (M := T12_makes) (pc := 29) 3 dX12_makes_29 (k := ?_)
    refine ev_aload_n (M := T12_makes) (pc := 30) 0 dX12_makes_30 (k := ?_)
    refine ev_dup (M := T12_makes) (pc := 31) dX12_makes_31 (k := ?_)
    refine ev_getI (M := T12_makes) (pc := 32) (x := h1.1 12 0 32) fl_X12_334 dX12_makes_32 (K := ?_)
    refine ev_dup_x1 (M := T12_makes) (pc := 35) dX12_makes_35 (k := ?_)
    refine ev_iconst (M := T12_makes) (pc := 36) dX12_makes_36 (k := ?_)
    refine ev_iadd (M := T12_makes) (pc := 37) dX12_makes_37 (k := ?_)
    obtain ⟨h2, eh2, H4⟩ := lt_e H3
    clear H3
    refine ev_putI (M := T12_makes) (pc := 38) j_ok1 fl_X12_334 eh2 dX12_makes_38 (K := ?_)
    obtain ⟨⟨hi0, hi1⟩, H5⟩ := g_e H4
    clear H4
    obtain ⟨h3, eh3, H6⟩ := lt_e H5
    clear H5
    refine ev_iastore (M := T12_makes) (pc := 41) (k := 134) j_ok1 hi0 hi1 eh3 dX12_makes_41 (hc := ac_134) (hlen := ln_134 _ _) (K := ?_)
    refine ev_aload_n (M := T12_makes) (pc := 42) 0 dX12_makes_42 (k := ?_)
    refine ev_getR (M := T12_makes) (pc := 43) (t := 135) (x := some (135, 0)) fl_X12_101 dX12_makes_43 (hx := ry_12_35 _ _) (K := ?_)
    refine ev_iload_n (M := T12_makes) (pc := 46) 3 dX12_makes_46 (k := ?_)
    refine ev_iload_n (M := T12_makes) (pc := 47) 1 dX12_makes_47 (k := ?_)
    obtain ⟨⟨hi0, hi1⟩, H7⟩ := g_e H6
    clear H6
    obtain ⟨h4, eh4, H8⟩ := lt_e H7
    clear H7
    refine ev_iastore (M := T12_makes) (pc := 48) (k := 135) j_ok1 hi0 hi1 eh4 dX12_makes_48 (hc := ac_135) (hlen := ln_135 _ _) (K := ?_)
    refine ev_aload_n (M := T12_makes) (pc := 49) 0 dX12_makes_49 (k := ?_)
    refine ev_getR (M := T12_makes) (pc := 50) (t := 136) (x := some (136, 0)) fl_X12_104 dX12_makes_50 (hx := ry_12_36 _ _) (K := ?_)
    refine ev_iload_n (M := T12_makes) (pc := 53) 3 dX12_makes_53 (k := ?_)
    refine ev_iload_n (M := T12_makes) (pc := 54) 2 dX12_makes_54 (k := ?_)
    obtain ⟨⟨hi0, hi1⟩, H9⟩ := g_e H8
    clear H8
    obtain ⟨h5, eh5, H10⟩ := lt_e H9
    clear H9
    refine ev_iastore (M := T12_makes) (pc := 55) (k := 136) j_ok1 hi0 hi1 eh5 dX12_makes_55 (hc := ac_136) (hlen := ln_136 _ _) (K := ?_)
    refine ev_aload_n (M := T12_makes) (pc := 56) 0 dX12_makes_56 (k := ?_)
    refine ev_getR (M := T12_makes) (pc := 57) (t := 137) (x := some (137, 0)) fl_X12_107 dX12_makes_57 (hx := ry_12_37 _ _) (K := ?_)
    refine ev_iload_n (M := T12_makes) (pc := 60) 3 dX12_makes_60 (k := ?_)
    refine ev_iconst (M := T12_makes) (pc := 61) dX12_makes_61 (k := ?_)
    obtain ⟨⟨hi0, hi1⟩, H11⟩ := g_e H10
    clear H10
    obtain ⟨h6, eh6, H12⟩ := lt_e H11
    clear H11
    refine ev_iastore (M := T12_makes) (pc := 62) (k := 137) j_ok1 hi0 hi1 eh6 dX12_makes_62 (hc := ac_137) (hlen := ln_137 _ _) (K := ?_)
    refine ev_aload_n (M := T12_makes) (pc := 63) 0 dX12_makes_63 (k := ?_)
    refine ev_getR (M := T12_makes) (pc := 64) (t := 138) (x := some (138, 0)) fl_X12_110 dX12_makes_64 (hx := ry_12_38 _ _) (K := ?_)
    refine ev_iload_n (M := T12_makes) (pc := 67) 3 dX12_makes_67 (k := ?_)
    refine ev_iconst (M := T12_makes) (pc := 68) dX12_makes_68 (k := ?_)
    obtain ⟨⟨hi0, hi1⟩, H13⟩ := g_e H12
    clear H12
    obtain ⟨h7, eh7, H14⟩ := lt_e H13
    clear H13
    refine ev_iastore (M := T12_makes) (pc := 69) (k := 138) j_ok1 hi0 hi1 eh7 dX12_makes_69 (hc := ac_138) (hlen := ln_138 _ _) (K := ?_)
    refine ev_aload_n (M := T12_makes) (pc := 70) 0 dX12_makes_70 (k := ?_)
    refine ev_getR (M := T12_makes) (pc := 71) (t := 140) (x := some (140, 0)) fl_X12_116 dX12_makes_71 (hx := ry_12_40 _ _) (K := ?_)
    refine ev_iload_n (M := T12_makes) (pc := 74) 3 dX12_makes_74 (k := ?_)
    refine ev_iconst (M := T12_makes) (pc := 75) dX12_makes_75 (k := ?_)
    obtain ⟨⟨hi0, hi1⟩, H15⟩ := g_e H14
    clear H14
    obtain ⟨h8, eh8, H16⟩ := lt_e H15
    clear H15
    refine ev_iastore (M := T12_makes) (pc := 76) (k := 140) j_ok1 hi0 hi1 eh8 dX12_makes_76 (hc := ac_140) (hlen := ln_140 _ _) (K := ?_)
    refine ev_aload_n (M := T12_makes) (pc := 77) 0 dX12_makes_77 (k := ?_)
    refine ev_getR (M := T12_makes) (pc := 78) (t := 143) (x := some (143, 0)) fl_X12_125 dX12_makes_78 (hx := ry_12_43 _ _) (K := ?_)
    refine ev_iload_n (M := T12_makes) (pc := 81) 3 dX12_makes_81 (k := ?_)
    refine ev_iconst (M := T12_makes) (pc := 82) dX12_makes_82 (k := ?_)
    obtain ⟨⟨hi0, hi1⟩, H17⟩ := g_e H16
    clear H16
    obtain ⟨h9, eh9, H18⟩ := lt_e H17
    clear H17
    refine ev_iastore (M := T12_makes) (pc := 83) (k := 143) j_ok1 hi0 hi1 eh9 dX12_makes_83 (hc := ac_143) (hlen := ln_143 _ _) (K := ?_)
    refine ev_aload_n (M := T12_makes) (pc := 84) 0 dX12_makes_84 (k := ?_)
    refine ev_getR (M := T12_makes) (pc := 85) (t := 144) (x := some (144, 0)) fl_X12_128 dX12_makes_85 (hx := ry_12_44 _ _) (K := ?_)
    refine ev_iload_n (M := T12_makes) (pc := 88) 3 dX12_makes_88 (k := ?_)
    refine ev_iconst (M := T12_makes) (pc := 89) dX12_makes_89 (k := ?_)
    obtain ⟨⟨hi0, hi1⟩, H19⟩ := g_e H18
    clear H18
    obtain ⟨h10, eh10, H20⟩ := lt_e H19
    clear H19
    refine ev_iastore (M := T12_makes) (pc := 90) (k := 144) j_ok1 hi0 hi1 eh10 dX12_makes_90 (hc := ac_144) (hlen := ln_144 _ _) (K := ?_)
    refine ev_aload_n (M := T12_makes) (pc := 91) 0 dX12_makes_91 (k := ?_)
    refine ev_getR (M := T12_makes) (pc := 92) (t := 145) (x := some (145, 0)) fl_X12_131 dX12_makes_92 (hx := ry_12_45 _ _) (K := ?_)
    refine ev_iload_n (M := T12_makes) (pc := 95) 3 dX12_makes_95 (k := ?_)
    refine ev_aload_n (M := T12_makes) (pc := 96) 0 dX12_makes_96 (k := ?_)
    refine ev_getI (M := T12_makes) (pc := 97) (x := h10.1 12 0 2) fl_X12_285 dX12_makes_97 (K := ?_)
    obtain ⟨⟨hi0, hi1⟩, H21⟩ := g_e H20
    clear H20
    obtain ⟨h11, eh11, H22⟩ := lt_e H21
    clear H21
    refine ev_iastore (M := T12_makes) (pc := 100) (k := 145) j_ok1 hi0 hi1 eh11 dX12_makes_100 (hc := ac_145) (hlen := ln_145 _ _) (K := ?_)
    refine ev_aload_n (M := T12_makes) (pc := 101) 0 dX12_makes_101 (k := ?_)
    refine ev_getR (M := T12_makes) (pc := 102) (t := 147) (x := some (147, 0)) fl_X12_137 dX12_makes_102 (hx := ry_12_47 _ _) (K := ?_)
    refine ev_iload_n (M := T12_makes) (pc := 105) 3 dX12_makes_105 (k := ?_)
    refine ev_iconst (M := T12_makes) (pc := 106) dX12_makes_106 (k := ?_)
    obtain ⟨⟨hi0, hi1⟩, H23⟩ := g_e H22
    clear H22
    obtain ⟨h12, eh12, H24⟩ := lt_e H23
    clear H23
    refine ev_iastore (M := T12_makes) (pc := 107) (k := 147) j_ok1 hi0 hi1 eh12 dX12_makes_107 (hc := ac_147) (hlen := ln_147 _ _) (K := ?_)
    refine ev_aload_n (M := T12_makes) (pc := 108) 0 dX12_makes_108 (k := ?_)
    refine ev_getR (M := T12_makes) (pc := 109) (t := 148) (x := some (148, 0)) fl_X12_140 dX12_makes_109 (hx := ry_12_48 _ _) (K := ?_)
    refine ev_iload_n (M := T12_makes) (pc := 112) 3 dX12_makes_112 (k := ?_)
    refine ev_iconst (M := T12_makes) (pc := 113) dX12_makes_113 (k := ?_)
    obtain ⟨⟨hi0, hi1⟩, H25⟩ := g_e H24
    clear H24
    obtain ⟨h13, eh13, H26⟩ := lt_e H25
    clear H25
    refine ev_zastore (M := T12_makes) (pc := 114) (k := 148) j_ok1 hi0 hi1 (Or.inl rfl) eh13 dX12_makes_114 (hc := ac_148) (hlen := ln_148 _ _) (K := ?_)
    refine ev_iload_n (M := T12_makes) (pc := 115) 3 dX12_makes_115 (k := ?_)
    cases H26
    exact ev_ireturn (M := T12_makes) (pc := 116) dX12_makes_116
  · replace H1 := if_ne hc H1
    refine ev_iinc (M := T12_makes) (pc := 12) 3 [(3, .inl (w32 (l3 + 1))), (0, .inr (.inr (some (12, 0)))), (1, .inl (l1)), (2, .inl (l2))] dX12_makes_12 (k := ?_)
    refine ev_goto (M := T12_makes) (pc := 15) 2 dX12_makes_15 (k := ?_)
    refine ev_lv [1, 2, 3, 0] [(0, .inr (.inr (some (12, 0)))), (1, .inl (l1)), (2, .inl (l2)), (3, .inl (w32 (l3 + 1)))] (k := ?_)
    exact hk2 l1 l2 (w32 (l3 + 1)) h _ H1
theorem E12_makes_2 (n : Nat) : ∀ (l1 : Int) (l2 : Int) (l3 : Int) (h : JM) (res : (Int × JM)), F12_makes_2 n l1 l2 l3 h = some res → Ev j_W1 1 0 0 T12_makes 2 [(0, .inr (.inr (some (12, 0)))), (1, .inl (l1)), (2, .inl (l2)), (3, .inl (l3))] [] h (some (.inl res.1)) res.2 := by
  induction n with
  | zero =>
    intro l1 l2 l3 h res H
    cases H
  | succ n ih =>
    intro l1 l2 l3 h res H
    exact E12_makes_2b (F12_makes_2 n) ih l1 l2 l3 h res H
set_option maxRecDepth 100000 in
set_option maxHeartbeats 4000000 in
theorem C12_makes {l1 : Int} {l2 : Int} {h : JM} {res : (Int × JM)} (H : F12_makes l1 l2 h = some res) : Cn j_W1 1 0 0 yX12_makes cX12_makes 4 (some .int) [.inr (.inr (some (12, 0))), .inl (l1), .inl (l2)] h (some (.inl res.1)) res.2 := by
  refine Cn.by (own := RX12) (b := false) [(0, .inr (.inr (some (12, 0)))), (1, .inl (l1)), (2, .inl (l2))] rfl (fun z => by cases z) (by decide +kernel) (K := ?_)
  unfold F12_makes at H
  refine ev_iconst (M := T12_makes) (pc := 0) dX12_makes_0 (k := ?_)
  refine ev_istore_n (M := T12_makes) (pc := 1) [(3, .inl (0)), (0, .inr (.inr (some (12, 0)))), (1, .inl (l1)), (2, .inl (l2))] dX12_makes_1 (k := ?_)
  refine ev_lv [1, 2, 3, 0] [(0, .inr (.inr (some (12, 0)))), (1, .inl (l1)), (2, .inl (l2)), (3, .inl (0))] (k := ?_)
  exact E12_makes_2 j_fu l1 l2 0 h _ H
-- X12_toFar
abbrev T12_toFar : JT := (RX12, cX12_toFar, 7, none, false)
set_option maxRecDepth 100000 in
set_option maxHeartbeats 4000000 in
theorem E12_toFar_258b (k258 : Int → Int → Int → Int → JM → Option JM) (hk258 : ∀ (l1 : Int) (l2 : Int) (l5 : Int) (l6 : Int) (h : JM) (res : JM), k258 l1 l2 l5 l6 h = some res → Ev j_W1 4 0 0 T12_toFar 258 [(0, .inr (.inr (some (12, 0)))), (1, .inl (l1)), (2, .inl (l2)), (5, .inl (l5)), (6, .inl (l6))] [] h none res) (l1 : Int) (l2 : Int) (l5 : Int) (l6 : Int) (h : JM) (res : JM) (H : F12_toFar_258b k258 l1 l2 l5 l6 h = some res) : Ev j_W1 4 0 0 T12_toFar 258 [(0, .inr (.inr (some (12, 0)))), (1, .inl (l1)), (2, .inl (l2)), (5, .inl (l5)), (6, .inl (l6))] [] h none res := by
  unfold F12_toFar_258b at H
  refine ev_iload (M := T12_toFar) (pc := 258) 4 dX12_toFar_258 (k := ?_)
  refine ev_iload (M := T12_toFar) (pc := 260) 3 dX12_toFar_260 (k := ?_)
  refine ev_icmpge (M := T12_toFar) (pc := 262) 306 dX12_toFar_262 (kt := fun hc => ?_) (kf := fun hc => ?_)
  · replace H := if_pe hc H
    refine ev_aload_n (M := T12_toFar) (pc := 306) 0 dX12_toFar_306 (k := ?_)
    refine ev_iload_n (M := T12_toFar) (pc := 307) 2 dX12_toFar_307 (k := ?_)
    obtain ⟨h1, hq, H1⟩ := bd_e H
    clear H
    refine ev_callV (M := T12_toFar) (pc := 308) (mc := 0) (ms := 0) (st := []) (C12_goes hq) md_X12_goes im_X12_goes se_X12_goes ml_X12_358 dX12_toFar_308 _ (by decide) (K := ?_)
    refine ev_aload_n (M := T12_toFar) (pc := 311) 0 dX12_toFar_311 (k := ?_)
    refine ev_iload_n (M := T12_toFar) (pc := 312) 1 dX12_toFar_312 (k := ?_)
    refine ev_iconst (M := T12_toFar) (pc := 313) dX12_toFar_313 (k := ?_)
    obtain ⟨h2, hq, H2⟩ := bd_e H1
    clear H1
    refine ev_callV (M := T12_toFar) (pc := 314) (mc := 0) (ms := 0) (st := []) (C12_becomes hq) md_X12_becomes im_X12_becomes se_X12_becomes ml_X12_361 dX12_toFar_314 _ (by decide) (K := ?_)
    cases H2
    exact ev_return (M := T12_toFar) (pc := 317) dX12_toFar_317
  · replace H := if_ne hc H
    refine ev_aload_n (M := T12_toFar) (pc := 265) 0 dX12_toFar_265 (k := ?_)
    refine ev_getR (M := T12_toFar) (pc := 266) (t := 156) (x := some (156, 0)) fl_X12_164 dX12_toFar_266 (hx := ry_12_56 _ _) (K := ?_)
    refine ev_aload_n (M := T12_toFar) (pc := 269) 0 dX12_toFar_269 (k := ?_)
    refine ev_dup (M := T12_toFar) (pc := 270) dX12_toFar_270 (k := ?_)
    refine ev_getI (M := T12_toFar) (pc := 271) (x := h.1 12 0 57) fl_X12_355 dX12_toFar_271 (K := ?_)
    refine ev_dup_x1 (M := T12_toFar) (pc := 274) dX12_toFar_274 (k := ?_)
    refine ev_iconst (M := T12_toFar) (pc := 275) dX12_toFar_275 (k := ?_)
    refine ev_iadd (M := T12_toFar) (pc := 276) dX12_toFar_276 (k := ?_)
    obtain ⟨h3, eh3, H1⟩ := lt_e H
    clear H
    refine ev_putI (M := T12_toFar) (pc := 277) j_ok1 fl_X12_355 eh3 dX12_toFar_277 (K := ?_)
    refine ev_aload_n (M := T12_toFar) (pc := 280) 0 dX12_toFar_280 (k := ?_)
    refine ev_getR (M := T12_toFar) (pc := 281) (t := 139) (x := some (139, 0)) fl_X12_113 dX12_toFar_281 (hx := ry_12_39 _ _) (K := ?_)
    refine ev_bipush (M := T12_toFar) (pc := 284) dX12_toFar_284 (k := ?_)
    refine ev_iload_n (M := T12_toFar) (pc := 286) 1 dX12_toFar_286 (k := ?_)
    refine ev_imul (M := T12_toFar) (pc := 287) dX12_toFar_287 (k := ?_)
    refine ev_aload_n (M := T12_toFar) (pc := 288) 0 dX12_toFar_288 (k := ?_)
    refine ev_getR (M := T12_toFar) (pc := 289) (t := 141) (x := some (141, 0)) fl_X12_119 dX12_toFar_289 (hx := ry_12_41 _ _) (K := ?_)
    refine ev_iload_n (M := T12_toFar) (pc := 292) 1 dX12_toFar_292 (k := ?_)
    obtain ⟨⟨hi0, hi1⟩, H2⟩ := g_e H1
    clear H1
    refine ev_iaload (M := T12_toFar) (pc := 293) (k := 141) hi0 hi1 dX12_toFar_293 (hc := ac_141) (hlen := ln_141 _ _) (K := ?_)
    refine ev_iadd (M := T12_toFar) (pc := 294) dX12_toFar_294 (k := ?_)
    refine ev_iload (M := T12_toFar) (pc := 295) 4 dX12_toFar_295 (k := ?_)
    refine ev_iadd (M := T12_toFar) (pc := 297) dX12_toFar_297 (k := ?_)
    obtain ⟨⟨hi0, hi1⟩, H3⟩ := g_e H2
    clear H2
    refine ev_iaload (M := T12_toFar) (pc := 298) (k := 139) hi0 hi1 dX12_toFar_298 (hc := ac_139) (hlen := ln_139 _ _) (K := ?_)
    obtain ⟨⟨hi0, hi1⟩, H4⟩ := g_e H3
    clear H3
    obtain ⟨h4, eh4, H5⟩ := lt_e H4
    clear H4
    refine ev_iastore (M := T12_toFar) (pc := 299) (k := 156) j_ok1 hi0 hi1 eh4 dX12_toFar_299 (hc := ac_156) (hlen := ln_156 _ _) (K := ?_)
    refine ev_iinc (M := T12_toFar) (pc := 300) 4 [(6, .inl (w32 (l6 + 1))), (0, .inr (.inr (some (12, 0)))), (1, .inl (l1)), (2, .inl (l2)), (5, .inl (l5))] dX12_toFar_300 (k := ?_)
    refine ev_goto (M := T12_toFar) (pc := 303) 258 dX12_toFar_303 (k := ?_)
    refine ev_lv [1, 2, 3, 4, 0] [(0, .inr (.inr (some (12, 0)))), (1, .inl (l1)), (2, .inl (l2)), (5, .inl (l5)), (6, .inl (w32 (l6 + 1)))] (k := ?_)
    exact hk258 l1 l2 l5 (w32 (l6 + 1)) h4 _ H5
theorem E12_toFar_258 (n : Nat) : ∀ (l1 : Int) (l2 : Int) (l5 : Int) (l6 : Int) (h : JM) (res : JM), F12_toFar_258 n l1 l2 l5 l6 h = some res → Ev j_W1 4 0 0 T12_toFar 258 [(0, .inr (.inr (some (12, 0)))), (1, .inl (l1)), (2, .inl (l2)), (5, .inl (l5)), (6, .inl (l6))] [] h none res := by
  induction n with
  | zero =>
    intro l1 l2 l5 l6 h res H
    cases H
  | succ n ih =>
    intro l1 l2 l5 l6 h res H
    exact E12_toFar_258b (F12_toFar_258 n) ih l1 l2 l5 l6 h res H
set_option maxRecDepth 100000 in
set_option maxHeartbeats 4000000 in
theorem E12_toFar_156 (l1 : Int) (l2 : Int) (l4 : Int) (h : JM) (res : JM) (H : F12_toFar_156 l1 l2 l4 h = some res) : Ev j_W1 4 0 0 T12_toFar 156 [(0, .inr (.inr (some (12, 0)))), (1, .inl (l1)), (2, .inl (l2)), (4, .inl (l4))] [] h none res := by
  unfold F12_toFar_156 at H
  refine ev_aload_n (M := T12_toFar) (pc := 156) 0 dX12_toFar_156 (k := ?_)
  refine ev_getR (M := T12_toFar) (pc := 157) (t := 137) (x := some (137, 0)) fl_X12_107 dX12_toFar_157 (hx := ry_12_37 _ _) (K := ?_)
  refine ev_iload_n (M := T12_toFar) (pc := 160) 1 dX12_toFar_160 (k := ?_)
  refine ev_bipush (M := T12_toFar) (pc := 161) dX12_toFar_161 (k := ?_)
  refine ev_iload (M := T12_toFar) (pc := 163) 3 dX12_toFar_163 (k := ?_)
  refine ev_iadd (M := T12_toFar) (pc := 165) dX12_toFar_165 (k := ?_)
  obtain ⟨⟨hi0, hi1⟩, H1⟩ := g_e H
  clear H
  obtain ⟨h5, eh5, H2⟩ := lt_e H1
  clear H1
  refine ev_iastore (M := T12_toFar) (pc := 166) (k := 137) j_ok1 hi0 hi1 eh5 dX12_toFar_166 (hc := ac_137) (hlen := ln_137 _ _) (K := ?_)
  refine ev_aload_n (M := T12_toFar) (pc := 167) 0 dX12_toFar_167 (k := ?_)
  refine ev_getR (M := T12_toFar) (pc := 168) (t := 154) (x := some (154, 0)) fl_X12_158 dX12_toFar_168 (hx := ry_12_54 _ _) (K := ?_)
  refine ev_bipush (M := T12_toFar) (pc := 171) dX12_toFar_171 (k := ?_)
  refine ev_iload_n (M := T12_toFar) (pc := 173) 2 dX12_toFar_173 (k := ?_)
  refine ev_imul (M := T12_toFar) (pc := 174) dX12_toFar_174 (k := ?_)
  refine ev_iload (M := T12_toFar) (pc := 175) 3 dX12_toFar_175 (k := ?_)
  refine ev_iadd (M := T12_toFar) (pc := 177) dX12_toFar_177 (k := ?_)
  refine ev_iconst (M := T12_toFar) (pc := 178) dX12_toFar_178 (k := ?_)
  obtain ⟨⟨hi0, hi1⟩, H3⟩ := g_e H2
  clear H2
  obtain ⟨h6, eh6, H4⟩ := lt_e H3
  clear H3
  refine ev_iastore (M := T12_toFar) (pc := 179) (k := 154) j_ok1 hi0 hi1 eh6 dX12_toFar_179 (hc := ac_154) (hlen := ln_154 _ _) (K := ?_)
  refine ev_aload_n (M := T12_toFar) (pc := 180) 0 dX12_toFar_180 (k := ?_)
  refine ev_getR (M := T12_toFar) (pc := 181) (t := 155) (x := some (155, 0)) fl_X12_161 dX12_toFar_181 (hx := ry_12_55 _ _) (K := ?_)
  refine ev_bipush (M := T12_toFar) (pc := 184) dX12_toFar_184 (k := ?_)
  refine ev_iload_n (M := T12_toFar) (pc := 186) 2 dX12_toFar_186 (k := ?_)
  refine ev_imul (M := T12_toFar) (pc := 187) dX12_toFar_187 (k := ?_)
  refine ev_iload (M := T12_toFar) (pc := 188) 3 dX12_toFar_188 (k := ?_)
  refine ev_iadd (M := T12_toFar) (pc := 190) dX12_toFar_190 (k := ?_)
  refine ev_iload_n (M := T12_toFar) (pc := 191) 1 dX12_toFar_191 (k := ?_)
  obtain ⟨⟨hi0, hi1⟩, H5⟩ := g_e H4
  clear H4
  obtain ⟨h7, eh7, H6⟩ := lt_e H5
  clear H5
  refine ev_iastore (M := T12_toFar) (pc := 192) (k := 155) j_ok1 hi0 hi1 eh7 dX12_toFar_192 (hc := ac_155) (hlen := ln_155 _ _) (K := ?_)
  refine ev_aload_n (M := T12_toFar) (pc := 193) 0 dX12_toFar_193 (k := ?_)
  refine ev_getR (M := T12_toFar) (pc := 194) (t := 140) (x := some (140, 0)) fl_X12_116 dX12_toFar_194 (hx := ry_12_40 _ _) (K := ?_)
  refine ev_iload_n (M := T12_toFar) (pc := 197) 1 dX12_toFar_197 (k := ?_)
  obtain ⟨⟨hi0, hi1⟩, H7⟩ := g_e H6
  clear H6
  refine ev_iaload (M := T12_toFar) (pc := 198) (k := 140) hi0 hi1 dX12_toFar_198 (hc := ac_140) (hlen := ln_140 _ _) (K := ?_)
  refine ev_aload_n (M := T12_toFar) (pc := 199) 0 dX12_toFar_199 (k := ?_)
  refine ev_getR (M := T12_toFar) (pc := 200) (t := 141) (x := some (141, 0)) fl_X12_119 dX12_toFar_200 (hx := ry_12_41 _ _) (K := ?_)
  refine ev_iload_n (M := T12_toFar) (pc := 203) 1 dX12_toFar_203 (k := ?_)
  obtain ⟨⟨hi0, hi1⟩, H8⟩ := g_e H7
  clear H7
  refine ev_iaload (M := T12_toFar) (pc := 204) (k := 141) hi0 hi1 dX12_toFar_204 (hc := ac_141) (hlen := ln_141 _ _) (K := ?_)
  refine ev_isub (M := T12_toFar) (pc := 205) dX12_toFar_205 (k := ?_)
  obtain ⟨x8, ex8, H9⟩ := lt_e H8
  clear H8
  refine ev_topI ex8 ?_
  refine ev_istore (M := T12_toFar) (pc := 206) [(5, .inl (x8)), (0, .inr (.inr (some (12, 0)))), (1, .inl (l1)), (2, .inl (l2)), (4, .inl (l4))] dX12_toFar_206 (k := ?_)
  refine ev_aload_n (M := T12_toFar) (pc := 208) 1 dX12_toFar_208 (k := ?_)
  refine ev_iload (M := T12_toFar) (pc := 209) 4 dX12_toFar_209 (k := ?_)
  refine ev_iconst (M := T12_toFar) (pc := 211) dX12_toFar_211 (k := ?_)
  obtain ⟨h9, hq, H10⟩ := bd_e H9
  clear H9
  refine ev_callV (M := T12_toFar) (pc := 212) (mc := 0) (ms := 0) (st := []) (C12_begins hq) md_X12_begins im_X12_begins se_X12_begins ml_X12_352 dX12_toFar_212 _ (by decide) (K := ?_)
  refine ev_aload_n (M := T12_toFar) (pc := 215) 1 dX12_toFar_215 (k := ?_)
  refine ev_getR (M := T12_toFar) (pc := 216) (t := 156) (x := some (156, 0)) fl_X12_164 dX12_toFar_216 (hx := ry_12_56 _ _) (K := ?_)
  refine ev_aload_n (M := T12_toFar) (pc := 219) 1 dX12_toFar_219 (k := ?_)
  refine ev_dup (M := T12_toFar) (pc := 220) dX12_toFar_220 (k := ?_)
  refine ev_getI (M := T12_toFar) (pc := 221) (x := h9.1 12 0 57) fl_X12_355 dX12_toFar_221 (K := ?_)
  refine ev_dup_x1 (M := T12_toFar) (pc := 224) dX12_toFar_224 (k := ?_)
  refine ev_iconst (M := T12_toFar) (pc := 225) dX12_toFar_225 (k := ?_)
  refine ev_iadd (M := T12_toFar) (pc := 226) dX12_toFar_226 (k := ?_)
  obtain ⟨h10, eh10, H11⟩ := lt_e H10
  clear H10
  refine ev_putI (M := T12_toFar) (pc := 227) j_ok1 fl_X12_355 eh10 dX12_toFar_227 (K := ?_)
  refine ev_aload_n (M := T12_toFar) (pc := 230) 1 dX12_toFar_230 (k := ?_)
  refine ev_getR (M := T12_toFar) (pc := 231) (t := 144) (x := some (144, 0)) fl_X12_128 dX12_toFar_231 (hx := ry_12_44 _ _) (K := ?_)
  refine ev_iload_n (M := T12_toFar) (pc := 234) 2 dX12_toFar_234 (k := ?_)
  obtain ⟨⟨hi0, hi1⟩, H12⟩ := g_e H11
  clear H11
  refine ev_iaload (M := T12_toFar) (pc := 235) (k := 144) hi0 hi1 dX12_toFar_235 (hc := ac_144) (hlen := ln_144 _ _) (K := ?_)
  obtain ⟨⟨hi0, hi1⟩, H13⟩ := g_e H12
  clear H12
  obtain ⟨h11, eh11, H14⟩ := lt_e H13
  clear H13
  refine ev_iastore (M := T12_toFar) (pc := 236) (k := 156) j_ok1 hi0 hi1 eh11 dX12_toFar_236 (hc := ac_156) (hlen := ln_156 _ _) (K := ?_)
  refine ev_aload_n (M := T12_toFar) (pc := 237) 1 dX12_toFar_237 (k := ?_)
  refine ev_getR (M := T12_toFar) (pc := 238) (t := 156) (x := some (156, 0)) fl_X12_164 dX12_toFar_238 (hx := ry_12_56 _ _) (K := ?_)
  refine ev_aload_n (M := T12_toFar) (pc := 241) 1 dX12_toFar_241 (k := ?_)
  refine ev_dup (M := T12_toFar) (pc := 242) dX12_toFar_242 (k := ?_)
  refine ev_getI (M := T12_toFar) (pc := 243) (x := h11.1 12 0 57) fl_X12_355 dX12_toFar_243 (K := ?_)
  refine ev_dup_x1 (M := T12_toFar) (pc := 246) dX12_toFar_246 (k := ?_)
  refine ev_iconst (M := T12_toFar) (pc := 247) dX12_toFar_247 (k := ?_)
  refine ev_iadd (M := T12_toFar) (pc := 248) dX12_toFar_248 (k := ?_)
  obtain ⟨h12, eh12, H15⟩ := lt_e H14
  clear H14
  refine ev_putI (M := T12_toFar) (pc := 249) j_ok1 fl_X12_355 eh12 dX12_toFar_249 (K := ?_)
  refine ev_iload (M := T12_toFar) (pc := 252) 0 dX12_toFar_252 (k := ?_)
  obtain ⟨⟨hi0, hi1⟩, H16⟩ := g_e H15
  clear H15
  obtain ⟨h13, eh13, H17⟩ := lt_e H16
  clear H16
  refine ev_iastore (M := T12_toFar) (pc := 254) (k := 156) j_ok1 hi0 hi1 eh13 dX12_toFar_254 (hc := ac_156) (hlen := ln_156 _ _) (K := ?_)
  refine ev_iconst (M := T12_toFar) (pc := 255) dX12_toFar_255 (k := ?_)
  refine ev_istore (M := T12_toFar) (pc := 256) [(6, .inl (0)), (5, .inl (x8)), (0, .inr (.inr (some (12, 0)))), (1, .inl (l1)), (2, .inl (l2)), (4, .inl (l4))] dX12_toFar_256 (k := ?_)
  refine ev_lv [2, 3, 4, 1, 0] [(0, .inr (.inr (some (12, 0)))), (1, .inl (l1)), (2, .inl (l2)), (5, .inl (x8)), (6, .inl (0))] (k := ?_)
  exact E12_toFar_258 j_fu l1 l2 x8 0 h13 _ H17
set_option maxRecDepth 100000 in
set_option maxHeartbeats 4000000 in
theorem E12_toFar_146 (l1 : Int) (h : JM) (res : JM) (H : F12_toFar_146 l1 h = some res) : Ev j_W1 4 0 0 T12_toFar 146 [(0, .inr (.inr (some (12, 0)))), (1, .inl (l1))] [] h none res := by
  unfold F12_toFar_146 at H
  refine ev_aload_n (M := T12_toFar) (pc := 146) 0 dX12_toFar_146 (k := ?_)
  refine ev_iload_n (M := T12_toFar) (pc := 147) 1 dX12_toFar_147 (k := ?_)
  refine ev_iconst (M := T12_toFar) (pc := 148) dX12_toFar_148 (k := ?_)
  refine ev_iconst (M := T12_toFar) (pc := 149) dX12_toFar_149 (k := ?_)
  obtain ⟨h14, hq, H1⟩ := bd_e H
  clear H
  refine ev_callV (M := T12_toFar) (pc := 150) (mc := 0) (ms := 0) (st := []) (C12_over hq) md_X12_over im_X12_over se_X12_over ml_X12_323 dX12_toFar_150 _ (by decide) (K := ?_)
  refine ev_goto (M := T12_toFar) (pc := 153) 317 dX12_toFar_153 (k := ?_)
  cases H1
  exact ev_return (M := T12_toFar) (pc := 317) dX12_toFar_317
set_option maxRecDepth 100000 in
set_option maxHeartbeats 4000000 in
theorem E12_toFar_121 (l1 : Int) (l2 : Int) (l3 : Int) (l4 : Int) (h : JM) (res : JM) (H : F12_toFar_121 l1 l2 l3 l4 h = some res) : Ev j_W1 4 0 0 T12_toFar 121 [(0, .inr (.inr (some (12, 0)))), (1, .inl (l1)), (2, .inl (l2)), (3, .inl (l3)), (4, .inl (l4))] [] h none res := by
  unfold F12_toFar_121 at H
  refine ev_aload_n (M := T12_toFar) (pc := 121) 0 dX12_toFar_121 (k := ?_)
  refine ev_getR (M := T12_toFar) (pc := 122) (t := 142) (x := some (142, 0)) fl_X12_122 dX12_toFar_122 (hx := ry_12_42 _ _) (K := ?_)
  refine ev_iload_n (M := T12_toFar) (pc := 125) 1 dX12_toFar_125 (k := ?_)
  obtain ⟨⟨hi0, hi1⟩, H1⟩ := g_e H
  clear H
  refine ev_iaload (M := T12_toFar) (pc := 126) (k := 142) hi0 hi1 dX12_toFar_126 (hc := ac_142) (hlen := ln_142 _ _) (K := ?_)
  refine ev_iconst (M := T12_toFar) (pc := 127) dX12_toFar_127 (k := ?_)
  refine ev_icmpne (M := T12_toFar) (pc := 128) 142 dX12_toFar_128 (kt := fun hc => ?_) (kf := fun hc => ?_)
  · replace H1 := if_ne hc H1
    refine ev_iload_n (M := T12_toFar) (pc := 142) 3 dX12_toFar_142 (k := ?_)
    refine ev_ifne (M := T12_toFar) (pc := 143) 156 dX12_toFar_143 (kt := fun hc => ?_) (kf := fun hc => ?_)
    · replace H1 := if_ne hc H1
      refine ev_lv [0, 1, 2, 4] [(0, .inr (.inr (some (12, 0)))), (1, .inl (l1)), (2, .inl (l2)), (4, .inl (l4))] (k := ?_)
      exact E12_toFar_156 l1 l2 l4 h _ H1
    · replace H1 := if_pe hc H1
      refine ev_lv [0, 1] [(0, .inr (.inr (some (12, 0)))), (1, .inl (l1))] (k := ?_)
      exact E12_toFar_146 l1 h _ H1
  · replace H1 := if_pe hc H1
    refine ev_iload_n (M := T12_toFar) (pc := 131) 3 dX12_toFar_131 (k := ?_)
    refine ev_aload_n (M := T12_toFar) (pc := 132) 0 dX12_toFar_132 (k := ?_)
    refine ev_getI (M := T12_toFar) (pc := 133) (x := h.1 12 0 1) fl_X12_259 dX12_toFar_133 (K := ?_)
    refine ev_icmpgt (M := T12_toFar) (pc := 136) 156 dX12_toFar_136 (kt := fun hc => ?_) (kf := fun hc => ?_)
    · replace H1 := if_pe hc H1
      refine ev_lv [0, 1, 2, 4] [(0, .inr (.inr (some (12, 0)))), (1, .inl (l1)), (2, .inl (l2)), (4, .inl (l4))] (k := ?_)
      exact E12_toFar_156 l1 l2 l4 h _ H1
    · replace H1 := if_ne hc H1
      refine ev_goto (M := T12_toFar) (pc := 139) 146 dX12_toFar_139 (k := ?_)
      refine ev_lv [0, 1] [(0, .inr (.inr (some (12, 0)))), (1, .inl (l1))] (k := ?_)
      exact E12_toFar_146 l1 h _ H1
set_option maxRecDepth 100000 in
set_option maxHeartbeats 4000000 in
theorem E12_toFar_64 (k15 : Int → Int → Int → Int → Int → JM → Option JM) (hk15 : ∀ (l1 : Int) (l2 : Int) (l3 : Int) (l4 : Int) (l5 : Int) (h : JM) (res : JM), k15 l1 l2 l3 l4 l5 h = some res → Ev j_W1 4 0 0 T12_toFar 15 [(0, .inr (.inr (some (12, 0)))), (1, .inl (l1)), (2, .inl (l2)), (3, .inl (l3)), (4, .inl (l4)), (5, .inl (l5))] [] h none res) (l1 : Int) (l2 : Int) (l3 : Int) (l4 : Int) (l5 : Int) (h : JM) (res : JM) (H : F12_toFar_64 k15 l1 l2 l3 l4 l5 h = some res) : Ev j_W1 4 0 0 T12_toFar 64 [(0, .inr (.inr (some (12, 0)))), (1, .inl (l1)), (2, .inl (l2)), (3, .inl (l3)), (4, .inl (l4)), (5, .inl (l5))] [] h none res := by
  unfold F12_toFar_64 at H
  refine ev_iinc (M := T12_toFar) (pc := 64) 5 [(5, .inl (w32 (l5 + 1))), (0, .inr (.inr (some (12, 0)))), (1, .inl (l1)), (2, .inl (l2)), (3, .inl (l3)), (4, .inl (l4))] dX12_toFar_64 (k := ?_)
  refine ev_goto (M := T12_toFar) (pc := 67) 15 dX12_toFar_67 (k := ?_)
  refine ev_lv [1, 2, 3, 4, 5, 0] [(0, .inr (.inr (some (12, 0)))), (1, .inl (l1)), (2, .inl (l2)), (3, .inl (l3)), (4, .inl (l4)), (5, .inl (w32 (l5 + 1)))] (k := ?_)
  exact hk15 l1 l2 l3 l4 (w32 (l5 + 1)) h _ H
set_option maxRecDepth 100000 in
set_option maxHeartbeats 4000000 in
theorem E12_toFar_62 (k15 : Int → Int → Int → Int → Int → JM → Option JM) (hk15 : ∀ (l1 : Int) (l2 : Int) (l3 : Int) (l4 : Int) (l5 : Int) (h : JM) (res : JM), k15 l1 l2 l3 l4 l5 h = some res → Ev j_W1 4 0 0 T12_toFar 15 [(0, .inr (.inr (some (12, 0)))), (1, .inl (l1)), (2, .inl (l2)), (3, .inl (l3)), (4, .inl (l4)), (5, .inl (l5))] [] h none res) (l1 : Int) (l2 : Int) (l3 : Int) (l5 : Int) (s0 : Int) (h : JM) (res : JM) (H : F12_toFar_62 k15 l1 l2 l3 l5 s0 h = some res) : Ev j_W1 4 0 0 T12_toFar 62 [(0, .inr (.inr (some (12, 0)))), (1, .inl (l1)), (2, .inl (l2)), (3, .inl (l3)), (5, .inl (l5))] [.inl (s0)] h none res := by
  unfold F12_toFar_62 at H
  refine ev_istore (M := T12_toFar) (pc := 62) [(4, .inl (s0)), (0, .inr (.inr (some (12, 0)))), (1, .inl (l1)), (2, .inl (l2)), (3, .inl (l3)), (5, .inl (l5))] dX12_toFar_62 (k := ?_)
  refine ev_lv [1, 2, 3, 4, 0, 5] [(0, .inr (.inr (some (12, 0)))), (1, .inl (l1)), (2, .inl (l2)), (3, .inl (l3)), (4, .inl (s0)), (5, .inl (l5))] (k := ?_)
  exact E12_toFar_64 k15 hk15 l1 l2 l3 s0 l5 h _ H
set_option maxRecDepth 100000 in
set_option maxHeartbeats 4000000 in
theorem E12_toFar_60 (k15 : Int → Int → Int → Int → Int → JM → Option JM) (hk15 : ∀ (l1 : Int) (l2 : Int) (l3 : Int) (l4 : Int) (l5 : Int) (h : JM) (res : JM), k15 l1 l2 l3 l4 l5 h = some res → Ev j_W1 4 0 0 T12_toFar 15 [(0, .inr (.inr (some (12, 0)))), (1, .inl (l1)), (2, .inl (l2)), (3, .inl (l3)), (4, .inl (l4)), (5, .inl (l5))] [] h none res) (l1 : Int) (l2 : Int) (l3 : Int) (l5 : Int) (h : JM) (res : JM) (H : F12_toFar_60 k15 l1 l2 l3 l5 h = some res) : Ev j_W1 4 0 0 T12_toFar 60 [(0, .inr (.inr (some (12, 0)))), (1, .inl (l1)), (2, .inl (l2)), (3, .inl (l3)), (5, .inl (l5))] [] h none res := by
  unfold F12_toFar_60 at H
  refine ev_iload (M := T12_toFar) (pc := 60) 4 dX12_toFar_60 (k := ?_)
  exact E12_toFar_62 k15 hk15 l1 l2 l3 l5 l5 h _ H
set_option maxRecDepth 100000 in
set_option maxHeartbeats 4000000 in
theorem E12_toFar_15b (k15 : Int → Int → Int → Int → Int → JM → Option JM) (hk15 : ∀ (l1 : Int) (l2 : Int) (l3 : Int) (l4 : Int) (l5 : Int) (h : JM) (res : JM), k15 l1 l2 l3 l4 l5 h = some res → Ev j_W1 4 0 0 T12_toFar 15 [(0, .inr (.inr (some (12, 0)))), (1, .inl (l1)), (2, .inl (l2)), (3, .inl (l3)), (4, .inl (l4)), (5, .inl (l5))] [] h none res) (l1 : Int) (l2 : Int) (l3 : Int) (l4 : Int) (l5 : Int) (h : JM) (res : JM) (H : F12_toFar_15b k15 l1 l2 l3 l4 l5 h = some res) : Ev j_W1 4 0 0 T12_toFar 15 [(0, .inr (.inr (some (12, 0)))), (1, .inl (l1)), (2, .inl (l2)), (3, .inl (l3)), (4, .inl (l4)), (5, .inl (l5))] [] h none res := by
  unfold F12_toFar_15b at H
  refine ev_iload (M := T12_toFar) (pc := 15) 5 dX12_toFar_15 (k := ?_)
  refine ev_aload_n (M := T12_toFar) (pc := 17) 0 dX12_toFar_17 (k := ?_)
  refine ev_getI (M := T12_toFar) (pc := 18) (x := h.1 12 0 0) fl_X12_255 dX12_toFar_18 (K := ?_)
  refine ev_icmpge (M := T12_toFar) (pc := 21) 70 dX12_toFar_21 (kt := fun hc => ?_) (kf := fun hc => ?_)
  · replace H := if_pe hc H
    refine ev_aload_n (M := T12_toFar) (pc := 70) 0 dX12_toFar_70 (k := ?_)
    refine ev_getR (M := T12_toFar) (pc := 71) (t := 142) (x := some (142, 0)) fl_X12_122 dX12_toFar_71 (hx := ry_12_42 _ _) (K := ?_)
    refine ev_iload_n (M := T12_toFar) (pc := 74) 1 dX12_toFar_74 (k := ?_)
    obtain ⟨⟨hi0, hi1⟩, H1⟩ := g_e H
    clear H
    refine ev_iaload (M := T12_toFar) (pc := 75) (k := 142) hi0 hi1 dX12_toFar_75 (hc := ac_142) (hlen := ln_142 _ _) (K := ?_)
    refine ev_iconst (M := T12_toFar) (pc := 76) dX12_toFar_76 (k := ?_)
    refine ev_icmpne (M := T12_toFar) (pc := 77) 121 dX12_toFar_77 (kt := fun hc => ?_) (kf := fun hc => ?_)
    · replace H1 := if_ne hc H1
      refine ev_lv [0, 1, 2, 3, 4] [(0, .inr (.inr (some (12, 0)))), (1, .inl (l1)), (2, .inl (l2)), (3, .inl (l3)), (4, .inl (l4))] (k := ?_)
      exact E12_toFar_121 l1 l2 l3 l4 h _ H1
    · replace H1 := if_pe hc H1
      refine ev_aload_n (M := T12_toFar) (pc := 80) 0 dX12_toFar_80 (k := ?_)
      refine ev_getR (M := T12_toFar) (pc := 81) (t := 136) (x := some (136, 0)) fl_X12_104 dX12_toFar_81 (hx := ry_12_36 _ _) (K := ?_)
      refine ev_iload_n (M := T12_toFar) (pc := 84) 1 dX12_toFar_84 (k := ?_)
      obtain ⟨⟨hi0, hi1⟩, H2⟩ := g_e H1
      clear H1
      refine ev_iaload (M := T12_toFar) (pc := 85) (k := 136) hi0 hi1 dX12_toFar_85 (hc := ac_136) (hlen := ln_136 _ _) (K := ?_)
      obtain ⟨q15, hq, H3⟩ := bd_e H2
      clear H2
      refine ev_callS (M := T12_toFar) (pc := 86) (mc := 0) (ms := 0) (st := []) (C12_isLineSide hq) md_X12_isLineSide ss_X12_isLineSide ml_X12_349 dX12_toFar_86 _ (by decide) (K := ?_)
      refine ev_ifeq (M := T12_toFar) (pc := 89) 121 dX12_toFar_89 (kt := fun hc => ?_) (kf := fun hc => ?_)
      · replace H3 := if_pe hc H3
        refine ev_lv [0, 1, 2, 3, 4] [(0, .inr (.inr (some (12, 0)))), (1, .inl (l1)), (2, .inl (l2)), (3, .inl (l3)), (4, .inl (l4))] (k := ?_)
        exact E12_toFar_121 l1 l2 l3 l4 q15.2 _ H3
      · replace H3 := if_ne hc H3
        refine ev_aload_n (M := T12_toFar) (pc := 92) 0 dX12_toFar_92 (k := ?_)
        refine ev_getR (M := T12_toFar) (pc := 93) (t := 127) (x := some (127, 0)) fl_X12_80 dX12_toFar_93 (hx := ry_12_27 _ _) (K := ?_)
        refine ev_iconst (M := T12_toFar) (pc := 96) dX12_toFar_96 (k := ?_)
        refine ev_aload_n (M := T12_toFar) (pc := 97) 0 dX12_toFar_97 (k := ?_)
        refine ev_getR (M := T12_toFar) (pc := 98) (t := 136) (x := some (136, 0)) fl_X12_104 dX12_toFar_98 (hx := ry_12_36 _ _) (K := ?_)
        refine ev_iload_n (M := T12_toFar) (pc := 101) 1 dX12_toFar_101 (k := ?_)
        obtain ⟨⟨hi0, hi1⟩, H4⟩ := g_e H3
        clear H3
        refine ev_iaload (M := T12_toFar) (pc := 102) (k := 136) hi0 hi1 dX12_toFar_102 (hc := ac_136) (hlen := ln_136 _ _) (K := ?_)
        refine ev_imul (M := T12_toFar) (pc := 103) dX12_toFar_103 (k := ?_)
        refine ev_iconst (M := T12_toFar) (pc := 104) dX12_toFar_104 (k := ?_)
        refine ev_iadd (M := T12_toFar) (pc := 105) dX12_toFar_105 (k := ?_)
        obtain ⟨⟨hi0, hi1⟩, H5⟩ := g_e H4
        clear H4
        refine ev_zaload (M := T12_toFar) (pc := 106) (k := 127) hi0 hi1 dX12_toFar_106 (hc := ac_127) (hlen := ln_127 _ _) (K := ?_)
        refine ev_ifeq (M := T12_toFar) (pc := 107) 121 dX12_toFar_107 (kt := fun hc => ?_) (kf := fun hc => ?_)
        · replace H5 := if_pe hc H5
          refine ev_lv [0, 1, 2, 3, 4] [(0, .inr (.inr (some (12, 0)))), (1, .inl (l1)), (2, .inl (l2)), (3, .inl (l3)), (4, .inl (l4))] (k := ?_)
          exact E12_toFar_121 l1 l2 l3 l4 q15.2 _ H5
        · replace H5 := if_ne hc H5
          refine ev_aload_n (M := T12_toFar) (pc := 110) 0 dX12_toFar_110 (k := ?_)
          refine ev_iload_n (M := T12_toFar) (pc := 111) 1 dX12_toFar_111 (k := ?_)
          refine ev_bipush (M := T12_toFar) (pc := 112) dX12_toFar_112 (k := ?_)
          refine ev_iconst (M := T12_toFar) (pc := 114) dX12_toFar_114 (k := ?_)
          obtain ⟨h16, hq, H6⟩ := bd_e H5
          clear H5
          refine ev_callV (M := T12_toFar) (pc := 115) (mc := 0) (ms := 0) (st := []) (C12_over hq) md_X12_over im_X12_over se_X12_over ml_X12_323 dX12_toFar_115 _ (by decide) (K := ?_)
          refine ev_goto (M := T12_toFar) (pc := 118) 317 dX12_toFar_118 (k := ?_)
          cases H6
          exact ev_return (M := T12_toFar) (pc := 317) dX12_toFar_317
  · replace H := if_ne hc H
    refine ev_aload_n (M := T12_toFar) (pc := 24) 0 dX12_toFar_24 (k := ?_)
    refine ev_getR (M := T12_toFar) (pc := 25) (t := 154) (x := some (154, 0)) fl_X12_158 dX12_toFar_25 (hx := ry_12_54 _ _) (K := ?_)
    refine ev_bipush (M := T12_toFar) (pc := 28) dX12_toFar_28 (k := ?_)
    refine ev_iload_n (M := T12_toFar) (pc := 30) 2 dX12_toFar_30 (k := ?_)
    refine ev_imul (M := T12_toFar) (pc := 31) dX12_toFar_31 (k := ?_)
    refine ev_iload (M := T12_toFar) (pc := 32) 5 dX12_toFar_32 (k := ?_)
    refine ev_iadd (M := T12_toFar) (pc := 34) dX12_toFar_34 (k := ?_)
    obtain ⟨⟨hi0, hi1⟩, H1⟩ := g_e H
    clear H
    refine ev_iaload (M := T12_toFar) (pc := 35) (k := 154) hi0 hi1 dX12_toFar_35 (hc := ac_154) (hlen := ln_154 _ _) (K := ?_)
    refine ev_ifeq (M := T12_toFar) (pc := 36) 42 dX12_toFar_36 (kt := fun hc => ?_) (kf := fun hc => ?_)
    · replace H1 := if_pe hc H1
      refine ev_iinc (M := T12_toFar) (pc := 42) 3 [(3, .inl (w32 (l3 + 1))), (0, .inr (.inr (some (12, 0)))), (1, .inl (l1)), (2, .inl (l2)), (4, .inl (l4)), (5, .inl (l5))] dX12_toFar_42 (k := ?_)
      refine ev_iload_n (M := T12_toFar) (pc := 45) 3 dX12_toFar_45 (k := ?_)
      refine ev_ifne (M := T12_toFar) (pc := 46) 60 dX12_toFar_46 (kt := fun hc => ?_) (kf := fun hc => ?_)
      · replace H1 := if_ne hc H1
        refine ev_lv [1, 2, 3, 0, 5] [(0, .inr (.inr (some (12, 0)))), (1, .inl (l1)), (2, .inl (l2)), (3, .inl (w32 (l3 + 1))), (5, .inl (l5))] (k := ?_)
        exact E12_toFar_60 k15 hk15 l1 l2 (w32 (l3 + 1)) l5 h _ H1
      · replace H1 := if_pe hc H1
        refine ev_iload (M := T12_toFar) (pc := 49) 4 dX12_toFar_49 (k := ?_)
        refine ev_iconst (M := T12_toFar) (pc := 51) dX12_toFar_51 (k := ?_)
        refine ev_icmpeq (M := T12_toFar) (pc := 52) 60 dX12_toFar_52 (kt := fun hc => ?_) (kf := fun hc => ?_)
        · replace H1 := if_pe hc H1
          refine ev_lv [1, 2, 3, 0, 5] [(0, .inr (.inr (some (12, 0)))), (1, .inl (l1)), (2, .inl (l2)), (3, .inl (w32 (l3 + 1))), (5, .inl (l5))] (k := ?_)
          exact E12_toFar_60 k15 hk15 l1 l2 (w32 (l3 + 1)) l5 h _ H1
        · replace H1 := if_ne hc H1
          refine ev_iload (M := T12_toFar) (pc := 55) 4 dX12_toFar_55 (k := ?_)
          refine ev_goto (M := T12_toFar) (pc := 57) 62 dX12_toFar_57 (k := ?_)
          refine ev_lv [1, 2, 3, 0, 5] [(0, .inr (.inr (some (12, 0)))), (1, .inl (l1)), (2, .inl (l2)), (3, .inl (w32 (l3 + 1))), (5, .inl (l5))] (k := ?_)
          exact E12_toFar_62 k15 hk15 l1 l2 (w32 (l3 + 1)) l5 l4 h _ H1
    · replace H1 := if_ne hc H1
      refine ev_goto (M := T12_toFar) (pc := 39) 64 dX12_toFar_39 (k := ?_)
      exact E12_toFar_64 k15 hk15 l1 l2 l3 l4 l5 h _ H1
theorem E12_toFar_15 (n : Nat) : ∀ (l1 : Int) (l2 : Int) (l3 : Int) (l4 : Int) (l5 : Int) (h : JM) (res : JM), F12_toFar_15 n l1 l2 l3 l4 l5 h = some res → Ev j_W1 4 0 0 T12_toFar 15 [(0, .inr (.inr (some (12, 0)))), (1, .inl (l1)), (2, .inl (l2)), (3, .inl (l3)), (4, .inl (l4)), (5, .inl (l5))] [] h none res := by
  induction n with
  | zero =>
    intro l1 l2 l3 l4 l5 h res H
    cases H
  | succ n ih =>
    intro l1 l2 l3 l4 l5 h res H
    exact E12_toFar_15b (F12_toFar_15 n) ih l1 l2 l3 l4 l5 h res H
set_option maxRecDepth 100000 in
set_option maxHeartbeats 4000000 in
theorem C12_toFar {l1 : Int} {h : JM} {res : JM} (H : F12_toFar l1 h = some res) : Cn j_W1 4 0 0 yX12_toFar cX12_toFar 7 none [.inr (.inr (some (12, 0))), .inl (l1)] h none res := by
  refine Cn.by (own := RX12) (b := false) [(0, .inr (.inr (some (12, 0)))), (1, .inl (l1))] rfl (fun z => by cases z) (by decide +kernel) (K := ?_)
  unfold F12_toFar at H
  refine ev_aload_n (M := T12_toFar) (pc := 0) 0 dX12_toFar_0 (k := ?_)
  refine ev_getR (M := T12_toFar) (pc := 1) (t := 135) (x := some (135, 0)) fl_X12_101 dX12_toFar_1 (hx := ry_12_35 _ _) (K := ?_)
  refine ev_iload_n (M := T12_toFar) (pc := 4) 1 dX12_toFar_4 (k := ?_)
  obtain ⟨⟨hi0, hi1⟩, H1⟩ := g_e H
  clear H
  refine ev_iaload (M := T12_toFar) (pc := 5) (k := 135) hi0 hi1 dX12_toFar_5 (hc := ac_135) (hlen := ln_135 _ _) (K := ?_)
  obtain ⟨x17, ex17, H2⟩ := lt_e H1
  clear H1
  refine ev_topI ex17 ?_
  refine ev_istore_n (M := T12_toFar) (pc := 6) [(2, .inl (x17)), (0, .inr (.inr (some (12, 0)))), (1, .inl (l1))] dX12_toFar_6 (k := ?_)
  refine ev_iconst (M := T12_toFar) (pc := 7) dX12_toFar_7 (k := ?_)
  refine ev_istore_n (M := T12_toFar) (pc := 8) [(3, .inl (0)), (2, .inl (x17)), (0, .inr (.inr (some (12, 0)))), (1, .inl (l1))] dX12_toFar_8 (k := ?_)
  refine ev_iconst (M := T12_toFar) (pc := 9) dX12_toFar_9 (k := ?_)
  refine ev_istore (M := T12_toFar) (pc := 10) [(4, .inl ((-1))), (3, .inl (0)), (2, .inl (x17)), (0, .inr (.inr (some (12, 0)))), (1, .inl (l1))] dX12_toFar_10 (k := ?_)
  refine ev_iconst (M := T12_toFar) (pc := 12) dX12_toFar_12 (k := ?_)
  refine ev_istore (M := T12_toFar) (pc := 13) [(5, .inl (0)), (4, .inl ((-1))), (3, .inl (0)), (2, .inl (x17)), (0, .inr (.inr (some (12, 0)))), (1, .inl (l1))] dX12_toFar_13 (k := ?_)
  refine ev_lv [4, 5, 3, 2, 1, 0] [(0, .inr (.inr (some (12, 0)))), (1, .inl (l1)), (2, .inl (x17)), (3, .inl (0)), (4, .inl ((-1))), (5, .inl (0))] (k := ?_)
  exact E12_toFar_15 j_fu l1 x17 0 (-1) 0 h _ H2
