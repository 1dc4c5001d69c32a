-- X12_highest
set_option maxRecDepth 100000 in
set_option maxHeartbeats 4000000 in
theorem I12_highest_2b (n : Nat) (k2 : Int → Int → JM → Option (Int × JM)) (hk2 : ∀ (l0 : Int) (l1 : Int) (h : JM) (res : (Int × JM)), k2 l0 l1 h = some res → Ev j_W0 1 (0 * n + 0) (0 * n + 0) T12_highest 2 [(0, .inl (l0)), (1, .inl (l1))] [] h (some (.inl res.1)) res.2) (l0 : Int) (l1 : Int) (h : JM) (res : (Int × JM)) (H : F12_highest_2b k2 l0 l1 h = some res) : Ev j_W0 1 (0 + (0 * n + 0)) (0 + (0 * n + 0)) T12_highest 2 [(0, .inl (l0)), (1, .inl (l1))] [] h (some (.inl res.1)) res.2 := by
  unfold F12_highest_2b at H
  refine ev_iload_n (M := T12_highest) (pc := 2) 0 dX12_highest_2 (k := ?_)
  refine ev_iload_n (M := T12_highest) (pc := 3) 1 dX12_highest_3 (k := ?_)
  refine ev_iconst (M := T12_highest) (pc := 4) dX12_highest_4 (k := ?_)
  refine ev_iadd (M := T12_highest) (pc := 5) dX12_highest_5 (k := ?_)
  refine ev_ishr (M := T12_highest) (pc := 6) dX12_highest_6 (k := ?_)
  refine ev_ifeq (M := T12_highest) (pc := 7) 16 dX12_highest_7 (kt := fun hc => ?_) (kf := fun hc => ?_)
  · replace H := if_pe hc H
    refine ev_iload_n (M := T12_highest) (pc := 16) 1 dX12_highest_16 (k := ?_)
    cases H
    exact ev_ireturn (M := T12_highest) (pc := 17) dX12_highest_17
  · replace H := if_ne hc H
    refine ev_iinc (M := T12_highest) (pc := 10) 1 [(1, .inl (w32 (l1 + 1))), (0, .inl (l0))] dX12_highest_10 (k := ?_)
    refine ev_goto (M := T12_highest) (pc := 13) 2 dX12_highest_13 (k := ?_)
    refine ev_mono (mc := 0 * n + 0) (ms := 0 * n + 0) (by omega) (by omega) ?_
    refine ev_lv [1, 0] [(0, .inl (l0)), (1, .inl (w32 (l1 + 1)))] (k := ?_)
    exact hk2 l0 (w32 (l1 + 1)) h _ H
theorem I12_highest_2 (n : Nat) : ∀ (l0 : Int) (l1 : Int) (h : JM) (res : (Int × JM)), F12_highest_2 n l0 l1 h = some res → Ev j_W0 1 (0 * n + 0) (0 * n + 0) T12_highest 2 [(0, .inl (l0)), (1, .inl (l1))] [] h (some (.inl res.1)) res.2 := by
  induction n with
  | zero =>
    intro l0 l1 h res H
    cases H
  | succ n ih =>
    intro l0 l1 h res H
    refine ev_mono (mc := 0 + (0 * n + 0)) (ms := 0 + (0 * n + 0)) (by omega) (by omega) ?_
    exact I12_highest_2b n (F12_highest_2 n) ih l0 l1 h res H
set_option maxRecDepth 100000 in
set_option maxHeartbeats 4000000 in
theorem I12_highest {l0 : Int} {h : JM} {res : (Int × JM)} (H : F12_highest l0 h = some res) : Cn j_W0 1 0 0 yX12_highest cX12_highest 2 (some .int) [.inl (l0)] h (some (.inl res.1)) res.2 := by
  refine Cn.by (own := RX12) (b := false) [(0, .inl (l0))] rfl (fun z => by cases z) (by decide +kernel) (K := ?_)
  unfold F12_highest at H
  refine ev_iconst (M := T12_highest) (pc := 0) dX12_highest_0 (k := ?_)
  refine ev_istore_n (M := T12_highest) (pc := 1) [(1, .inl (0)), (0, .inl (l0))] dX12_highest_1 (k := ?_)
  refine ev_mono (mc := 0 * j_fu + 0) (ms := 0 * j_fu + 0) (by omega) (by omega) ?_
  refine ev_lv [1, 0] [(0, .inl (l0)), (1, .inl (0))] (k := ?_)
  exact I12_highest_2 j_fu l0 0 h _ H
-- X12_codeOf
set_option maxRecDepth 100000 in
set_option maxHeartbeats 4000000 in
theorem I12_codeOf_128 (l4 : Int) (l5 : Int) (s0 : Int) (h : JM) (res : (Int × JM)) (H : F12_codeOf_128 l4 l5 s0 h = some res) : Ev j_W0 2 (0) (0) T12_codeOf 128 [(4, .inl (l4)), (5, .inl (l5))] [.inl (s0)] h (some (.inl res.1)) res.2 := by
  unfold F12_codeOf_128 at H
  refine ev_bipush (M := T12_codeOf) (pc := 128) dX12_codeOf_128 (k := ?_)
  refine ev_iload (M := T12_codeOf) (pc := 130) 0 dX12_codeOf_130 (k := ?_)
  refine ev_imul (M := T12_codeOf) (pc := 132) dX12_codeOf_132 (k := ?_)
  refine ev_iadd (M := T12_codeOf) (pc := 133) dX12_codeOf_133 (k := ?_)
  refine ev_iload (M := T12_codeOf) (pc := 134) 1 dX12_codeOf_134 (k := ?_)
  refine ev_iadd (M := T12_codeOf) (pc := 136) dX12_codeOf_136 (k := ?_)
  refine ev_bipush (M := T12_codeOf) (pc := 137) dX12_codeOf_137 (k := ?_)
  refine ev_ixor (M := T12_codeOf) (pc := 139) dX12_codeOf_139 (k := ?_)
  cases H
  exact ev_ireturn (M := T12_codeOf) (pc := 140) dX12_codeOf_140
set_option maxRecDepth 100000 in
set_option maxHeartbeats 4000000 in
theorem I12_codeOf_115 (l1 : Int) (l4 : Int) (s0 : Int) (h : JM) (res : (Int × JM)) (H : F12_codeOf_115 l1 l4 s0 h = some res) : Ev j_W0 2 (0) (0) T12_codeOf 115 [(1, .inl (l1)), (4, .inl (l4))] [.inl (s0)] h (some (.inl res.1)) res.2 := by
  unfold F12_codeOf_115 at H
  refine ev_istore (M := T12_codeOf) (pc := 115) [(5, .inl (s0)), (1, .inl (l1)), (4, .inl (l4))] dX12_codeOf_115 (k := ?_)
  refine ev_iload_n (M := T12_codeOf) (pc := 117) 1 dX12_codeOf_117 (k := ?_)
  refine ev_ifge (M := T12_codeOf) (pc := 118) 125 dX12_codeOf_118 (kt := fun hc => ?_) (kf := fun hc => ?_)
  · replace H := if_pe hc H
    refine ev_sipush (M := T12_codeOf) (pc := 125) dX12_codeOf_125 (k := ?_)
    refine ev_mono (mc := 0) (ms := 0) (by omega) (by omega) ?_
    refine ev_lv [2, 0] [(4, .inl (l4)), (5, .inl (s0))] (k := ?_)
    exact I12_codeOf_128 l4 s0 128 h _ H
  · replace H := if_ne hc H
    refine ev_iconst (M := T12_codeOf) (pc := 121) dX12_codeOf_121 (k := ?_)
    refine ev_goto (M := T12_codeOf) (pc := 122) 128 dX12_codeOf_122 (k := ?_)
    refine ev_mono (mc := 0) (ms := 0) (by omega) (by omega) ?_
    refine ev_lv [2, 0] [(4, .inl (l4)), (5, .inl (s0))] (k := ?_)
    exact I12_codeOf_128 l4 s0 0 h _ H
set_option maxRecDepth 100000 in
set_option maxHeartbeats 4000000 in
theorem I12_codeOf_94 (l1 : Int) (l3 : Int) (s0 : Int) (h : JM) (res : (Int × JM)) (H : F12_codeOf_94 l1 l3 s0 h = some res) : Ev j_W0 2 (0) (0) T12_codeOf 94 [(1, .inl (l1)), (3, .inl (l3))] [.inl (s0)] h (some (.inl res.1)) res.2 := by
  unfold F12_codeOf_94 at H
  refine ev_istore (M := T12_codeOf) (pc := 94) [(4, .inl (s0)), (1, .inl (l1)), (3, .inl (l3))] dX12_codeOf_94 (k := ?_)
  refine ev_iload_n (M := T12_codeOf) (pc := 96) 2 dX12_codeOf_96 (k := ?_)
  refine ev_bipush (M := T12_codeOf) (pc := 97) dX12_codeOf_97 (k := ?_)
  refine ev_icmpge (M := T12_codeOf) (pc := 99) 108 dX12_codeOf_99 (kt := fun hc => ?_) (kf := fun hc => ?_)
  · replace H := if_pe hc H
    refine ev_iload_n (M := T12_codeOf) (pc := 108) 2 dX12_codeOf_108 (k := ?_)
    refine ev_iload (M := T12_codeOf) (pc := 109) 0 dX12_codeOf_109 (k := ?_)
    refine ev_ishr (M := T12_codeOf) (pc := 111) dX12_codeOf_111 (k := ?_)
    refine ev_bipush (M := T12_codeOf) (pc := 112) dX12_codeOf_112 (k := ?_)
    refine ev_irem (M := T12_codeOf) (pc := 114) dX12_codeOf_114 (by decide) (k := ?_)
    refine ev_mono (mc := 0) (ms := 0) (by omega) (by omega) ?_
    refine ev_lv [1, 0] [(1, .inl (l1)), (4, .inl (s0))] (k := ?_)
    exact I12_codeOf_115 l1 s0 (j_rem (j_shr l3 s0) 16) h _ H
  · replace H := if_ne hc H
    refine ev_iload_n (M := T12_codeOf) (pc := 102) 2 dX12_codeOf_102 (k := ?_)
    refine ev_iconst (M := T12_codeOf) (pc := 103) dX12_codeOf_103 (k := ?_)
    refine ev_idiv (M := T12_codeOf) (pc := 104) dX12_codeOf_104 (by decide) (k := ?_)
    refine ev_goto (M := T12_codeOf) (pc := 105) 115 dX12_codeOf_105 (k := ?_)
    refine ev_mono (mc := 0) (ms := 0) (by omega) (by omega) ?_
    refine ev_lv [1, 0] [(1, .inl (l1)), (4, .inl (s0))] (k := ?_)
    exact I12_codeOf_115 l1 s0 (j_div l3 2) h _ H
set_option maxRecDepth 100000 in
set_option maxHeartbeats 4000000 in
theorem I12_codeOf_56 (l3 : Int) (l4 : Int) (s0 : Int) (s1 : Int) (h : JM) (res : (Int × JM)) (H : F12_codeOf_56 l3 l4 s0 s1 h = some res) : Ev j_W0 2 (0) (0) T12_codeOf 56 [(3, .inl (l3)), (4, .inl (l4))] [.inl (s1), .inl (s0)] h (some (.inl res.1)) res.2 := by
  unfold F12_codeOf_56 at H
  refine ev_isub (M := T12_codeOf) (pc := 56) dX12_codeOf_56 (k := ?_)
  refine ev_bipush (M := T12_codeOf) (pc := 57) dX12_codeOf_57 (k := ?_)
  refine ev_iload (M := T12_codeOf) (pc := 59) 1 dX12_codeOf_59 (k := ?_)
  refine ev_imul (M := T12_codeOf) (pc := 61) dX12_codeOf_61 (k := ?_)
  refine ev_isub (M := T12_codeOf) (pc := 62) dX12_codeOf_62 (k := ?_)
  refine ev_iload_n (M := T12_codeOf) (pc := 63) 0 dX12_codeOf_63 (k := ?_)
  refine ev_iload (M := T12_codeOf) (pc := 64) 1 dX12_codeOf_64 (k := ?_)
  refine ev_iconst (M := T12_codeOf) (pc := 66) dX12_codeOf_66 (k := ?_)
  refine ev_iadd (M := T12_codeOf) (pc := 67) dX12_codeOf_67 (k := ?_)
  refine ev_ishr (M := T12_codeOf) (pc := 68) dX12_codeOf_68 (k := ?_)
  refine ev_bipush (M := T12_codeOf) (pc := 69) dX12_codeOf_69 (k := ?_)
  refine ev_irem (M := T12_codeOf) (pc := 71) dX12_codeOf_71 (by decide) (k := ?_)
  refine ev_isub (M := T12_codeOf) (pc := 72) dX12_codeOf_72 (k := ?_)
  cases H
  exact ev_ireturn (M := T12_codeOf) (pc := 73) dX12_codeOf_73
set_option maxRecDepth 100000 in
set_option maxHeartbeats 4000000 in
theorem I12_codeOf_30 (l1 : Int) (s0 : Int) (h : JM) (res : (Int × JM)) (H : F12_codeOf_30 l1 s0 h = some res) : Ev j_W0 2 (0) (0) T12_codeOf 30 [(1, .inl (l1))] [.inl (s0)] h (some (.inl res.1)) res.2 := by
  unfold F12_codeOf_30 at H
  refine ev_bipush (M := T12_codeOf) (pc := 30) dX12_codeOf_30 (k := ?_)
  refine ev_iadd (M := T12_codeOf) (pc := 32) dX12_codeOf_32 (k := ?_)
  obtain ⟨x1, ex1, H1⟩ := lt_e H
  clear H
  refine ev_topI ex1 ?_
  refine ev_istore_n (M := T12_codeOf) (pc := 33) [(3, .inl (x1)), (1, .inl (l1))] dX12_codeOf_33 (k := ?_)
  refine ev_iload_n (M := T12_codeOf) (pc := 34) 0 dX12_codeOf_34 (k := ?_)
  refine ev_mono (mc := 0 + (0)) (ms := 0 + (0)) (by omega) (by omega) ?_
  obtain ⟨q2, hq, H2⟩ := bd_e H1
  clear H1
  refine ev_callS (M := T12_codeOf) (pc := 35) (mc := 0) (ms := 0) (st := []) (I12_highest hq) md_X12_highest ss_X12_highest ml_X12_462 dX12_codeOf_35 _ (by decide) (K := ?_)
  refine ev_iconst (M := T12_codeOf) (pc := 38) dX12_codeOf_38 (k := ?_)
  refine ev_isub (M := T12_codeOf) (pc := 39) dX12_codeOf_39 (k := ?_)
  obtain ⟨x3, ex3, H3⟩ := lt_e H2
  clear H2
  refine ev_topI ex3 ?_
  refine ev_istore (M := T12_codeOf) (pc := 40) [(4, .inl (x3)), (3, .inl (x1)), (1, .inl (l1))] dX12_codeOf_40 (k := ?_)
  refine ev_sipush (M := T12_codeOf) (pc := 42) dX12_codeOf_42 (k := ?_)
  refine ev_iload_n (M := T12_codeOf) (pc := 45) 2 dX12_codeOf_45 (k := ?_)
  refine ev_ifge (M := T12_codeOf) (pc := 46) 55 dX12_codeOf_46 (kt := fun hc => ?_) (kf := fun hc => ?_)
  · replace H3 := if_pe hc H3
    refine ev_iconst (M := T12_codeOf) (pc := 55) dX12_codeOf_55 (k := ?_)
    refine ev_mono (mc := 0) (ms := 0) (by omega) (by omega) ?_
    refine ev_lv [1, 0] [(3, .inl (x1)), (4, .inl (x3))] (k := ?_)
    exact I12_codeOf_56 x1 x3 255 0 q2.2 _ H3
  · replace H3 := if_ne hc H3
    refine ev_sipush (M := T12_codeOf) (pc := 49) dX12_codeOf_49 (k := ?_)
    refine ev_goto (M := T12_codeOf) (pc := 52) 56 dX12_codeOf_52 (k := ?_)
    refine ev_mono (mc := 0) (ms := 0) (by omega) (by omega) ?_
    refine ev_lv [1, 0] [(3, .inl (x1)), (4, .inl (x3))] (k := ?_)
    exact I12_codeOf_56 x1 x3 255 128 q2.2 _ H3
set_option maxRecDepth 100000 in
set_option maxHeartbeats 4000000 in
theorem I12_codeOf_10 (l0 : Int) (l1 : Int) (s0 : Int) (h : JM) (res : (Int × JM)) (H : F12_codeOf_10 l0 l1 s0 h = some res) : Ev j_W0 2 (0) (0) T12_codeOf 10 [(0, .inl (l0)), (1, .inl (l1))] [.inl (s0)] h (some (.inl res.1)) res.2 := by
  unfold F12_codeOf_10 at H
  refine ev_istore_n (M := T12_codeOf) (pc := 10) [(2, .inl (s0)), (0, .inl (l0)), (1, .inl (l1))] dX12_codeOf_10 (k := ?_)
  refine ev_iload_n (M := T12_codeOf) (pc := 11) 1 dX12_codeOf_11 (k := ?_)
  refine ev_iconst (M := T12_codeOf) (pc := 12) dX12_codeOf_12 (k := ?_)
  refine ev_icmpne (M := T12_codeOf) (pc := 13) 74 dX12_codeOf_13 (kt := fun hc => ?_) (kf := fun hc => ?_)
  · replace H := if_ne hc H
    refine ev_iload_n (M := T12_codeOf) (pc := 74) 0 dX12_codeOf_74 (k := ?_)
    refine ev_iconst (M := T12_codeOf) (pc := 75) dX12_codeOf_75 (k := ?_)
    refine ev_idiv (M := T12_codeOf) (pc := 76) dX12_codeOf_76 (by decide) (k := ?_)
    obtain ⟨x4, ex4, H1⟩ := lt_e H
    clear H
    refine ev_topI ex4 ?_
    refine ev_istore_n (M := T12_codeOf) (pc := 77) [(3, .inl (x4)), (2, .inl (s0)), (0, .inl (l0)), (1, .inl (l1))] dX12_codeOf_77 (k := ?_)
    refine ev_iload_n (M := T12_codeOf) (pc := 78) 0 dX12_codeOf_78 (k := ?_)
    refine ev_bipush (M := T12_codeOf) (pc := 79) dX12_codeOf_79 (k := ?_)
    refine ev_icmpge (M := T12_codeOf) (pc := 81) 88 dX12_codeOf_81 (kt := fun hc => ?_) (kf := fun hc => ?_)
    · replace H1 := if_pe hc H1
      refine ev_iload_n (M := T12_codeOf) (pc := 88) 0 dX12_codeOf_88 (k := ?_)
      refine ev_mono (mc := 0 + (0)) (ms := 0 + (0)) (by omega) (by omega) ?_
      obtain ⟨q5, hq, H2⟩ := bd_e H1
      clear H1
      refine ev_callS (M := T12_codeOf) (pc := 89) (mc := 0) (ms := 0) (st := []) (I12_highest hq) md_X12_highest ss_X12_highest ml_X12_462 dX12_codeOf_89 _ (by decide) (K := ?_)
      refine ev_iconst (M := T12_codeOf) (pc := 92) dX12_codeOf_92 (k := ?_)
      refine ev_isub (M := T12_codeOf) (pc := 93) dX12_codeOf_93 (k := ?_)
      refine ev_mono (mc := 0) (ms := 0) (by omega) (by omega) ?_
      refine ev_lv [3, 0] [(1, .inl (l1)), (3, .inl (x4))] (k := ?_)
      exact I12_codeOf_94 l1 x4 (w32 (q5.1 - 4)) q5.2 _ H2
    · replace H1 := if_ne hc H1
      refine ev_iconst (M := T12_codeOf) (pc := 84) dX12_codeOf_84 (k := ?_)
      refine ev_goto (M := T12_codeOf) (pc := 85) 94 dX12_codeOf_85 (k := ?_)
      refine ev_mono (mc := 0) (ms := 0) (by omega) (by omega) ?_
      refine ev_lv [3, 0] [(1, .inl (l1)), (3, .inl (x4))] (k := ?_)
      exact I12_codeOf_94 l1 x4 0 h _ H1
  · replace H := if_pe hc H
    refine ev_iload_n (M := T12_codeOf) (pc := 16) 0 dX12_codeOf_16 (k := ?_)
    refine ev_sipush (M := T12_codeOf) (pc := 17) dX12_codeOf_17 (k := ?_)
    refine ev_icmpge (M := T12_codeOf) (pc := 20) 27 dX12_codeOf_20 (kt := fun hc => ?_) (kf := fun hc => ?_)
    · replace H := if_pe hc H
      refine ev_sipush (M := T12_codeOf) (pc := 27) dX12_codeOf_27 (k := ?_)
      refine ev_mono (mc := 0) (ms := 0) (by omega) (by omega) ?_
      refine ev_lv [2] [(1, .inl (l1))] (k := ?_)
      exact I12_codeOf_30 l1 8158 h _ H
    · replace H := if_ne hc H
      refine ev_iload_n (M := T12_codeOf) (pc := 23) 0 dX12_codeOf_23 (k := ?_)
      refine ev_goto (M := T12_codeOf) (pc := 24) 30 dX12_codeOf_24 (k := ?_)
      refine ev_mono (mc := 0) (ms := 0) (by omega) (by omega) ?_
      refine ev_lv [2] [(1, .inl (l1))] (k := ?_)
      exact I12_codeOf_30 l1 s0 h _ H
set_option maxRecDepth 100000 in
set_option maxHeartbeats 4000000 in
theorem I12_codeOf {l0 : Int} {l1 : Int} {h : JM} {res : (Int × JM)} (H : F12_codeOf l0 l1 h = some res) : Cn j_W0 2 0 0 yX12_codeOf cX12_codeOf 6 (some .int) [.inl (l0), .inl (l1)] h (some (.inl res.1)) res.2 := by
  refine Cn.by (own := RX12) (b := false) [(0, .inl (l0)), (1, .inl (l1))] rfl (fun z => by cases z) (by decide +kernel) (K := ?_)
  unfold F12_codeOf at H
  refine ev_iload_n (M := T12_codeOf) (pc := 0) 1 dX12_codeOf_0 (k := ?_)
  refine ev_ifge (M := T12_codeOf) (pc := 1) 9 dX12_codeOf_1 (kt := fun hc => ?_) (kf := fun hc => ?_)
  · replace H := if_pe hc H
    refine ev_iload_n (M := T12_codeOf) (pc := 9) 1 dX12_codeOf_9 (k := ?_)
    refine ev_mono (mc := 0) (ms := 0) (by omega) (by omega) ?_
    exact I12_codeOf_10 l0 l1 l1 h _ H
  · replace H := if_ne hc H
    refine ev_iload_n (M := T12_codeOf) (pc := 4) 1 dX12_codeOf_4 (k := ?_)
    refine ev_ineg (M := T12_codeOf) (pc := 5) dX12_codeOf_5 (k := ?_)
    refine ev_goto (M := T12_codeOf) (pc := 6) 10 dX12_codeOf_6 (k := ?_)
    refine ev_mono (mc := 0) (ms := 0) (by omega) (by omega) ?_
    exact I12_codeOf_10 l0 l1 (w32 (-l1)) h _ H
-- X0_init
abbrev T0_init : JT := (RX0, cX0_init, 1, none, true)
set_option maxRecDepth 100000 in
set_option maxHeartbeats 4000000 in
theorem I0_init {l0 : Int} {h : JM} {res : JM} (H : F0_init l0 h = some res) : Cn j_W0 1 0 0 yX0_init cX0_init 1 none [.inr (.inr (some (0, l0)))] h none res := by
  refine Cn.by (own := RX0) (b := true) [(0, .inr (.inr (some (0, l0))))] rfl (fun _ => rfl) (by decide +kernel) (K := ?_)
  unfold F0_init at H
  refine ev_aload_n (M := T0_init) (pc := 0) 0 dX0_init_0 (k := ?_)
  refine ev_objInit (M := T0_init) (pc := 1) (n0 := _) ml_X0_3 j_oi j_oc dX0_init_1 (by decide) (K := ?_)
  refine ev_aload_n (M := T0_init) (pc := 4) 0 dX0_init_4 (k := ?_)
  refine ev_iconst (M := T0_init) (pc := 5) dX0_init_5 (k := ?_)
  obtain ⟨h1, eh1, H1⟩ := lt_e H
  clear H
  refine ev_putI (M := T0_init) (pc := 6) j_ok0 fl_X0_9 eh1 dX0_init_6 (K := ?_)
  cases H1
  exact ev_return (M := T0_init) (pc := 9) dX0_init_9
-- X9_init
abbrev T9_init : JT := (RX9, cX9_init, 1, none, true)
set_option maxRecDepth 100000 in
set_option maxHeartbeats 4000000 in
theorem I9_init {l0 : Int} {h : JM} {res : JM} (H : F9_init l0 h = some res) : Cn j_W0 1 0 0 yX9_init cX9_init 1 none [.inr (.inr (some (9, l0)))] h none res := by
  refine Cn.by (own := RX9) (b := true) [(0, .inr (.inr (some (9, l0))))] rfl (fun _ => rfl) (by decide +kernel) (K := ?_)
  unfold F9_init at H
  refine ev_aload_n (M := T9_init) (pc := 0) 0 dX9_init_0 (k := ?_)
  refine ev_objInit (M := T9_init) (pc := 1) (n0 := _) ml_X9_3 j_oi j_oc dX9_init_1 (by decide) (K := ?_)
  refine ev_aload_n (M := T9_init) (pc := 4) 0 dX9_init_4 (k := ?_)
  refine ev_ldc2 (M := T9_init) (pc := 5) (n := (-1)) cl_X9_9 dX9_init_5 (hv := cw_X9_9) (k := ?_)
  obtain ⟨h1, eh1, H1⟩ := lt_e H
  clear H
  refine ev_putL (M := T9_init) (pc := 8) j_ok0 fl_X9_11 eh1 dX9_init_8 (K := ?_)
  refine ev_aload_n (M := T9_init) (pc := 11) 0 dX9_init_11 (k := ?_)
  refine ev_iconst (M := T9_init) (pc := 12) dX9_init_12 (k := ?_)
  obtain ⟨h2, eh2, H2⟩ := lt_e H1
  clear H1
  refine ev_putI (M := T9_init) (pc := 13) j_ok0 fl_X9_17 eh2 dX9_init_13 (K := ?_)
  cases H2
  exact ev_return (M := T9_init) (pc := 16) dX9_init_16
-- X5_init
abbrev T5_init : JT := (RX5, cX5_init, 2, none, true)
set_option maxRecDepth 100000 in
set_option maxHeartbeats 4000000 in
theorem I5_init_69b (n : Nat) (k69 : Int → Int → JM → Option JM) (hk69 : ∀ (l0 : Int) (l1 : Int) (h : JM) (res : JM), k69 l0 l1 h = some res → Ev j_W0 2 (1 * n + 0) (6 * n + 0) T5_init 69 [(0, .inr (.inr (some (5, l0)))), (1, .inl (l1))] [] h none res) (l0 : Int) (l1 : Int) (h : JM) (res : JM) (H : F5_init_69b k69 l0 l1 h = some res) : Ev j_W0 2 (1 + (1 * n + 0)) (6 + (6 * n + 0)) T5_init 69 [(0, .inr (.inr (some (5, l0)))), (1, .inl (l1))] [] h none res := by
  unfold F5_init_69b at H
  refine ev_iload_n (M := T5_init) (pc := 69) 1 dX5_init_69 (k := ?_)
  refine ev_aload_n (M := T5_init) (pc := 70) 0 dX5_init_70 (k := ?_)
  refine ev_getR (M := T5_init) (pc := 71) (t := 33) (x := Option.map (Prod.mk 33) (h.2.2 5 l0 10)) fl_X5_28 dX5_init_71  (K := ?_)
  obtain ⟨a1, ea1, H1⟩ := bd_e H
  clear H
  rw [ea1]
  obtain ⟨⟨hi0, hi1⟩, H2⟩ := g_e H1
  clear H1
  refine ev_alen (M := T5_init) (pc := 74) (k := 33) (c := 19) (t0 := 10) (len := h.1 1033 a1 1) dX5_init_74 (fun _ => rfl) hi0 hi1 (hc := ac_33) (K := ?_)
  refine ev_icmpge (M := T5_init) (pc := 75) 97 dX5_init_75 (kt := fun hc => ?_) (kf := fun hc => ?_)
  · replace H2 := if_pe hc H2
    cases H2
    exact ev_return (M := T5_init) (pc := 97) dX5_init_97
  · replace H2 := if_ne hc H2
    refine ev_aload_n (M := T5_init) (pc := 78) 0 dX5_init_78 (k := ?_)
    refine ev_getR (M := T5_init) (pc := 79) (t := 33) (x := Option.map (Prod.mk 33) (h.2.2 5 l0 10)) fl_X5_28 dX5_init_79  (K := ?_)
    refine ev_iload_n (M := T5_init) (pc := 82) 1 dX5_init_82 (k := ?_)
    refine ev_mono (mc := 1 + (0 + (1 * n + 0))) (ms := j_N 9 + (0 + (6 * n + 0))) (by omega) (by show 6 + _ ≤ _; omega) ?_
    obtain ⟨hn, H3⟩ := g_e H2
    clear H2
    obtain ⟨h2, eh2, H4⟩ := lt_e H3
    clear H3
    refine ev_new (M := T5_init) (pc := 83) (k := 9) (mc := 0 + (1 * n + 0)) (ms := 0 + (6 * n + 0)) (128 + 2 * l0 + l1) (j_wn0 0 (by decide) hn) eh2 ck_X5_22 it_9 in_9 dX5_init_83 (K := ?_)
    refine ev_dup (M := T5_init) (pc := 86) dX5_init_86 (k := ?_)
    refine ev_mono (mc := 0 + (0 + (1 * n + 0))) (ms := 0 + (0 + (6 * n + 0))) (by omega) (by omega) ?_
    obtain ⟨h3, hq, H5⟩ := bd_e H4
    clear H4
    refine ev_callIN (M := T5_init) (pc := 87) (mc := 0 + (1 * n + 0)) (ms := 0 + (6 * n + 0)) (st := [.inr (.inr (some (9, (128 + 2 * l0 + l1)))), .inl (l1), .inr (.inr (Option.map (Prod.mk 33) (h.2.2 5 l0 10)))]) (I9_init hq) md_X9_init im_X9_init rfl ml_X5_31 dX5_init_87 _ (by decide) (K := ?_)
    obtain ⟨a4, ea4, H6⟩ := bd_e H5
    clear H5
    rw [ea4]
    obtain ⟨⟨hi0, hi1⟩, H7⟩ := g_e H6
    clear H6
    obtain ⟨h5, eh5, H8⟩ := lt_e H7
    clear H7
    refine ev_aastore (M := T5_init) (pc := 90) (k := 33) j_ok0 9 (some (128 + 2 * l0 + l1)) hi0 hi1 eh5 dX5_init_90 (hc := ac_33) (K := ?_)
    refine ev_iinc (M := T5_init) (pc := 91) 1 [(1, .inl (w32 (l1 + 1))), (0, .inr (.inr (some (5, l0))))] dX5_init_91 (k := ?_)
    refine ev_goto (M := T5_init) (pc := 94) 69 dX5_init_94 (k := ?_)
    refine ev_mono (mc := 1 * n + 0) (ms := 6 * n + 0) (by omega) (by omega) ?_
    refine ev_lv [1, 0] [(0, .inr (.inr (some (5, l0)))), (1, .inl (w32 (l1 + 1)))] (k := ?_)
    exact hk69 l0 (w32 (l1 + 1)) h5 _ H8
theorem I5_init_69 (n : Nat) : ∀ (l0 : Int) (l1 : Int) (h : JM) (res : JM), F5_init_69 n l0 l1 h = some res → Ev j_W0 2 (1 * n + 0) (6 * n + 0) T5_init 69 [(0, .inr (.inr (some (5, l0)))), (1, .inl (l1))] [] h none res := by
  induction n with
  | zero =>
    intro l0 l1 h res H
    cases H
  | succ n ih =>
    intro l0 l1 h res H
    refine ev_mono (mc := 1 + (1 * n + 0)) (ms := 6 + (6 * n + 0)) (by omega) (by omega) ?_
    exact I5_init_69b n (F5_init_69 n) ih l0 l1 h res H
set_option maxRecDepth 100000 in
set_option maxHeartbeats 4000000 in
theorem I5_init_42b (n : Nat) (k42 : Int → Int → JM → Option JM) (hk42 : ∀ (l0 : Int) (l1 : Int) (h : JM) (res : JM), k42 l0 l1 h = some res → Ev j_W0 2 (1 * n + 100) (6 * n + 600) T5_init 42 [(0, .inr (.inr (some (5, l0)))), (1, .inl (l1))] [] h none res) (l0 : Int) (l1 : Int) (h : JM) (res : JM) (H : F5_init_42b k42 l0 l1 h = some res) : Ev j_W0 2 (1 + (1 * n + 100)) (6 + (6 * n + 600)) T5_init 42 [(0, .inr (.inr (some (5, l0)))), (1, .inl (l1))] [] h none res := by
  unfold F5_init_42b at H
  refine ev_iload_n (M := T5_init) (pc := 42) 1 dX5_init_42 (k := ?_)
  refine ev_bipush (M := T5_init) (pc := 43) dX5_init_43 (k := ?_)
  refine ev_icmpge (M := T5_init) (pc := 45) 67 dX5_init_45 (kt := fun hc => ?_) (kf := fun hc => ?_)
  · replace H := if_pe hc H
    refine ev_iconst (M := T5_init) (pc := 67) dX5_init_67 (k := ?_)
    refine ev_istore_n (M := T5_init) (pc := 68) [(1, .inl (0)), (0, .inr (.inr (some (5, l0))))] dX5_init_68 (k := ?_)
    have hf0 : j_f0 = 100 := rfl
    refine ev_mono (mc := 1 * j_f0 + 0) (ms := 6 * j_f0 + 0) (by omega) (by omega) ?_
    refine ev_lv [1, 0] [(0, .inr (.inr (some (5, l0)))), (1, .inl (0))] (k := ?_)
    exact I5_init_69 j_f0 l0 0 h _ H
  · replace H := if_ne hc H
    refine ev_aload_n (M := T5_init) (pc := 48) 0 dX5_init_48 (k := ?_)
    refine ev_getR (M := T5_init) (pc := 49) (t := 32) (x := Option.map (Prod.mk 32) (h.2.2 5 l0 9)) fl_X5_24 dX5_init_49  (K := ?_)
    refine ev_iload_n (M := T5_init) (pc := 52) 1 dX5_init_52 (k := ?_)
    refine ev_mono (mc := 1 + (0 + (1 * n + 100))) (ms := j_N 9 + (0 + (6 * n + 600))) (by omega) (by show 6 + _ ≤ _; omega) ?_
    obtain ⟨hn, H1⟩ := g_e H
    clear H
    obtain ⟨h6, eh6, H2⟩ := lt_e H1
    clear H1
    refine ev_new (M := T5_init) (pc := 53) (k := 9) (mc := 0 + (1 * n + 100)) (ms := 0 + (6 * n + 600)) (64 * l0 + l1) (j_wn0 0 (by decide) hn) eh6 ck_X5_22 it_9 in_9 dX5_init_53 (K := ?_)
    refine ev_dup (M := T5_init) (pc := 56) dX5_init_56 (k := ?_)
    refine ev_mono (mc := 0 + (0 + (1 * n + 100))) (ms := 0 + (0 + (6 * n + 600))) (by omega) (by omega) ?_
    obtain ⟨h7, hq, H3⟩ := bd_e H2
    clear H2
    refine ev_callIN (M := T5_init) (pc := 57) (mc := 0 + (1 * n + 100)) (ms := 0 + (6 * n + 600)) (st := [.inr (.inr (some (9, (64 * l0 + l1)))), .inl (l1), .inr (.inr (Option.map (Prod.mk 32) (h.2.2 5 l0 9)))]) (I9_init hq) md_X9_init im_X9_init rfl ml_X5_31 dX5_init_57 _ (by decide) (K := ?_)
    obtain ⟨a8, ea8, H4⟩ := bd_e H3
    clear H3
    rw [ea8]
    obtain ⟨⟨hi0, hi1⟩, H5⟩ := g_e H4
    clear H4
    obtain ⟨h9, eh9, H6⟩ := lt_e H5
    clear H5
    refine ev_aastore (M := T5_init) (pc := 60) (k := 32) j_ok0 9 (some (64 * l0 + l1)) hi0 hi1 eh9 dX5_init_60 (hc := ac_32) (K := ?_)
    refine ev_iinc (M := T5_init) (pc := 61) 1 [(1, .inl (w32 (l1 + 1))), (0, .inr (.inr (some (5, l0))))] dX5_init_61 (k := ?_)
    refine ev_goto (M := T5_init) (pc := 64) 42 dX5_init_64 (k := ?_)
    refine ev_mono (mc := 1 * n + 100) (ms := 6 * n + 600) (by omega) (by omega) ?_
    refine ev_lv [1, 0] [(0, .inr (.inr (some (5, l0)))), (1, .inl (w32 (l1 + 1)))] (k := ?_)
    exact hk42 l0 (w32 (l1 + 1)) h9 _ H6
theorem I5_init_42 (n : Nat) : ∀ (l0 : Int) (l1 : Int) (h : JM) (res : JM), F5_init_42 n l0 l1 h = some res → Ev j_W0 2 (1 * n + 100) (6 * n + 600) T5_init 42 [(0, .inr (.inr (some (5, l0)))), (1, .inl (l1))] [] h none res := by
  induction n with
  | zero =>
    intro l0 l1 h res H
    cases H
  | succ n ih =>
    intro l0 l1 h res H
    refine ev_mono (mc := 1 + (1 * n + 100)) (ms := 6 + (6 * n + 600)) (by omega) (by omega) ?_
    exact I5_init_42b n (F5_init_42 n) ih l0 l1 h res H
set_option maxRecDepth 100000 in
set_option maxHeartbeats 4000000 in
theorem I5_init {l0 : Int} {h : JM} {res : JM} (H : F5_init l0 h = some res) : Cn j_W0 2 203 1466 yX5_init cX5_init 2 none [.inr (.inr (some (5, l0)))] h none res := by
  refine Cn.by (own := RX5) (b := true) [(0, .inr (.inr (some (5, l0))))] rfl (fun _ => rfl) (by decide +kernel) (K := ?_)
  unfold F5_init at H
  refine ev_aload_n (M := T5_init) (pc := 0) 0 dX5_init_0 (k := ?_)
  refine ev_objInit (M := T5_init) (pc := 1) (n0 := _) ml_X5_3 j_oi j_oc dX5_init_1 (by decide) (K := ?_)
  refine ev_aload_n (M := T5_init) (pc := 4) 0 dX5_init_4 (k := ?_)
  refine ev_iconst (M := T5_init) (pc := 5) dX5_init_5 (k := ?_)
  obtain ⟨h10, eh10, H1⟩ := lt_e H
  clear H
  refine ev_putI (M := T5_init) (pc := 6) j_ok0 fl_X5_9 eh10 dX5_init_6 (K := ?_)
  refine ev_aload_n (M := T5_init) (pc := 9) 0 dX5_init_9 (k := ?_)
  refine ev_iconst (M := T5_init) (pc := 10) dX5_init_10 (k := ?_)
  obtain ⟨h11, eh11, H2⟩ := lt_e H1
  clear H1
  refine ev_putI (M := T5_init) (pc := 11) j_ok0 fl_X5_15 eh11 dX5_init_11 (K := ?_)
  refine ev_aload_n (M := T5_init) (pc := 14) 0 dX5_init_14 (k := ?_)
  refine ev_sipush (M := T5_init) (pc := 15) dX5_init_15 (k := ?_)
  obtain ⟨hn, H3⟩ := g_e H2
  clear H2
  refine ev_mono (mc := 1 + (202)) (ms := (200 : Int).toNat + (1266)) (by omega) (by show 200 + _ ≤ _; omega) ?_
  obtain ⟨h12, eh12, H4⟩ := lt_e H3
  clear H3
  refine ev_newJ (M := T5_init) (pc := 18) (k := 31) (mc := 202) (ms := 1266) (len := 200) l0 (j_wn0 _ (by decide) hn) eh12 (by decide) (by decide) dX5_init_18 (K := ?_)
  obtain ⟨h13, eh13, H5⟩ := lt_e H4
  clear H4
  refine ev_putRF (M := T5_init) (pc := 20) (t := 31) j_ok0 (some l0) fl_X5_18 eh13 (hdg := dX5_init_20) (K := ?_)
  refine ev_aload_n (M := T5_init) (pc := 23) 0 dX5_init_23 (k := ?_)
  refine ev_bipush (M := T5_init) (pc := 24) dX5_init_24 (k := ?_)
  obtain ⟨hn, H6⟩ := g_e H5
  clear H5
  refine ev_mono (mc := 1 + (201)) (ms := (64 : Int).toNat + (1202)) (by omega) (by show 64 + _ ≤ _; omega) ?_
  obtain ⟨h14, eh14, H7⟩ := lt_e H6
  clear H6
  refine ev_anew (M := T5_init) (pc := 26) (k := 32) (t := 9) (mc := 201) (ms := 1202) (len := 64) l0 (j_wn0 _ (by decide) hn) eh14 (by decide) (by decide) ck_X5_22 ao_9 dX5_init_26 (K := ?_)
  obtain ⟨h15, eh15, H8⟩ := lt_e H7
  clear H7
  refine ev_putRF (M := T5_init) (pc := 29) (t := 32) j_ok0 (some l0) fl_X5_24 eh15 (hdg := dX5_init_29) (K := ?_)
  refine ev_aload_n (M := T5_init) (pc := 32) 0 dX5_init_32 (k := ?_)
  refine ev_iconst (M := T5_init) (pc := 33) dX5_init_33 (k := ?_)
  obtain ⟨hn, H9⟩ := g_e H8
  clear H8
  refine ev_mono (mc := 1 + (200)) (ms := (2 : Int).toNat + (1200)) (by omega) (by show 2 + _ ≤ _; omega) ?_
  obtain ⟨h16, eh16, H10⟩ := lt_e H9
  clear H9
  refine ev_anew (M := T5_init) (pc := 34) (k := 33) (t := 9) (mc := 200) (ms := 1200) (len := 2) l0 (j_wn0 _ (by decide) hn) eh16 (by decide) (by decide) ck_X5_22 ao_9 dX5_init_34 (K := ?_)
  obtain ⟨h17, eh17, H11⟩ := lt_e H10
  clear H10
  refine ev_putRF (M := T5_init) (pc := 37) (t := 33) j_ok0 (some l0) fl_X5_28 eh17 (hdg := dX5_init_37) (K := ?_)
  refine ev_iconst (M := T5_init) (pc := 40) dX5_init_40 (k := ?_)
  refine ev_istore_n (M := T5_init) (pc := 41) [(1, .inl (0)), (0, .inr (.inr (some (5, l0))))] dX5_init_41 (k := ?_)
  have hf0 : j_f0 = 100 := rfl
  refine ev_mono (mc := 1 * j_f0 + 100) (ms := 6 * j_f0 + 600) (by omega) (by omega) ?_
  refine ev_lv [1, 0] [(0, .inr (.inr (some (5, l0)))), (1, .inl (0))] (k := ?_)
  exact I5_init_42 j_f0 l0 0 h17 _ H11
-- X8_init
abbrev T8_init : JT := (RX8, cX8_init, 2, none, true)
set_option maxRecDepth 100000 in
set_option maxHeartbeats 4000000 in
theorem I8_init {l0 : Int} {l1 : Int} {h : JM} {res : JM} (H : F8_init l0 l1 h = some res) : Cn j_W0 1 0 0 yX8_init cX8_init 2 none [.inr (.inr (some (8, l0))), .inl (l1)] h none res := by
  refine Cn.by (own := RX8) (b := true) [(0, .inr (.inr (some (8, l0)))), (1, .inl (l1))] rfl (fun _ => rfl) (by decide +kernel) (K := ?_)
  unfold F8_init at H
  refine ev_aload_n (M := T8_init) (pc := 0) 0 dX8_init_0 (k := ?_)
  refine ev_objInit (M := T8_init) (pc := 1) (n0 := _) ml_X8_3 j_oi j_oc dX8_init_1 (by decide) (K := ?_)
  refine ev_aload_n (M := T8_init) (pc := 4) 0 dX8_init_4 (k := ?_)
  refine ev_iconst (M := T8_init) (pc := 5) dX8_init_5 (k := ?_)
  obtain ⟨h1, eh1, H1⟩ := lt_e H
  clear H
  refine ev_putI (M := T8_init) (pc := 6) j_ok0 fl_X8_9 eh1 dX8_init_6 (K := ?_)
  refine ev_aload_n (M := T8_init) (pc := 9) 0 dX8_init_9 (k := ?_)
  refine ev_sipush (M := T8_init) (pc := 10) dX8_init_10 (k := ?_)
  obtain ⟨h2, eh2, H2⟩ := lt_e H1
  clear H1
  refine ev_putI (M := T8_init) (pc := 13) j_ok0 fl_X8_15 eh2 dX8_init_13 (K := ?_)
  refine ev_aload_n (M := T8_init) (pc := 16) 0 dX8_init_16 (k := ?_)
  refine ev_sipush (M := T8_init) (pc := 17) dX8_init_17 (k := ?_)
  obtain ⟨h3, eh3, H3⟩ := lt_e H2
  clear H2
  refine ev_putI (M := T8_init) (pc := 20) j_ok0 fl_X8_18 eh3 dX8_init_20 (K := ?_)
  refine ev_aload_n (M := T8_init) (pc := 23) 0 dX8_init_23 (k := ?_)
  refine ev_iload_n (M := T8_init) (pc := 24) 1 dX8_init_24 (k := ?_)
  obtain ⟨h4, eh4, H4⟩ := lt_e H3
  clear H3
  refine ev_putIF (M := T8_init) (pc := 25) j_ok0 fl_X8_21 eh4 dX8_init_25 (K := ?_)
  cases H4
  exact ev_return (M := T8_init) (pc := 28) dX8_init_28
-- X2_init
abbrev T2_init : JT := (RX2, cX2_init, 1, none, true)
set_option maxRecDepth 100000 in
set_option maxHeartbeats 4000000 in
theorem I2_init {l0 : Int} {h : JM} {res : JM} (H : F2_init l0 h = some res) : Cn j_W0 1 1 8 yX2_init cX2_init 1 none [.inr (.inr (some (2, l0)))] h none res := by
  refine Cn.by (own := RX2) (b := true) [(0, .inr (.inr (some (2, l0))))] rfl (fun _ => rfl) (by decide +kernel) (K := ?_)
  unfold F2_init at H
  refine ev_aload_n (M := T2_init) (pc := 0) 0 dX2_init_0 (k := ?_)
  refine ev_objInit (M := T2_init) (pc := 1) (n0 := _) ml_X2_3 j_oi j_oc dX2_init_1 (by decide) (K := ?_)
  refine ev_aload_n (M := T2_init) (pc := 4) 0 dX2_init_4 (k := ?_)
  refine ev_bipush (M := T2_init) (pc := 5) dX2_init_5 (k := ?_)
  obtain ⟨hn, H1⟩ := g_e H
  clear H
  refine ev_mono (mc := 1 + (0)) (ms := (8 : Int).toNat + (0)) (by omega) (by show 8 + _ ≤ _; omega) ?_
  obtain ⟨h1, eh1, H2⟩ := lt_e H1
  clear H1
  refine ev_anew (M := T2_init) (pc := 7) (k := 25) (t := 4) (mc := 0) (ms := 0) (len := 8) l0 (j_wn0 _ (by decide) hn) eh1 (by decide) (by decide) ck_X2_9 ao_4 dX2_init_7 (K := ?_)
  obtain ⟨h2, eh2, H3⟩ := lt_e H2
  clear H2
  refine ev_putRF (M := T2_init) (pc := 10) (t := 25) j_ok0 (some l0) fl_X2_11 eh2 (hdg := dX2_init_10) (K := ?_)
  refine ev_aload_n (M := T2_init) (pc := 13) 0 dX2_init_13 (k := ?_)
  refine ev_iconst (M := T2_init) (pc := 14) dX2_init_14 (k := ?_)
  obtain ⟨h3, eh3, H4⟩ := lt_e H3
  clear H3
  refine ev_putI (M := T2_init) (pc := 15) j_ok0 fl_X2_17 eh3 dX2_init_15 (K := ?_)
  refine ev_aload_n (M := T2_init) (pc := 18) 0 dX2_init_18 (k := ?_)
  refine ev_iconst (M := T2_init) (pc := 19) dX2_init_19 (k := ?_)
  obtain ⟨h4, eh4, H5⟩ := lt_e H4
  clear H4
  refine ev_putI (M := T2_init) (pc := 20) j_ok0 fl_X2_21 eh4 dX2_init_20 (K := ?_)
  cases H5
  exact ev_return (M := T2_init) (pc := 23) dX2_init_23
-- X1_init
abbrev T1_init : JT := (RX1, cX1_init, 4, none, true)
set_option maxRecDepth 100000 in
set_option maxHeartbeats 4000000 in
theorem I1_init_88b (n : Nat) (k88 : Int → Int → JM → Option JM) (hk88 : ∀ (l0 : Int) (l3 : Int) (h : JM) (res : JM), k88 l0 l3 h = some res → Ev j_W0 3 (2 * n + 0) (14 * n + 0) T1_init 88 [(0, .inr (.inr (some (1, l0)))), (3, .inl (l3))] [] h none res) (l0 : Int) (l3 : Int) (h : JM) (res : JM) (H : F1_init_88b k88 l0 l3 h = some res) : Ev j_W0 3 (2 + (2 * n + 0)) (14 + (14 * n + 0)) T1_init 88 [(0, .inr (.inr (some (1, l0)))), (3, .inl (l3))] [] h none res := by
  unfold F1_init_88b at H
  refine ev_iload_n (M := T1_init) (pc := 88) 1 dX1_init_88 (k := ?_)
  refine ev_iconst (M := T1_init) (pc := 89) dX1_init_89 (k := ?_)
  refine ev_icmpge (M := T1_init) (pc := 90) 112 dX1_init_90 (kt := fun hc => ?_) (kf := fun hc => ?_)
  · replace H := if_pe hc H
    cases H
    exact ev_return (M := T1_init) (pc := 112) dX1_init_112
  · replace H := if_ne hc H
    refine ev_aload_n (M := T1_init) (pc := 93) 0 dX1_init_93 (k := ?_)
    refine ev_getR (M := T1_init) (pc := 94) (t := 21) (x := Option.map (Prod.mk 21) (h.2.2 1 l0 2)) fl_X1_11 dX1_init_94  (K := ?_)
    refine ev_iload_n (M := T1_init) (pc := 97) 1 dX1_init_97 (k := ?_)
    refine ev_mono (mc := 1 + (1 + (2 * n + 0))) (ms := j_N 2 + (8 + (14 * n + 0))) (by omega) (by show 6 + _ ≤ _; omega) ?_
    obtain ⟨hn, H1⟩ := g_e H
    clear H
    obtain ⟨h1, eh1, H2⟩ := lt_e H1
    clear H1
    refine ev_new (M := T1_init) (pc := 98) (k := 2) (mc := 1 + (2 * n + 0)) (ms := 8 + (14 * n + 0)) (3 * l0 + l3) (j_wn0 0 (by decide) hn) eh1 ck_X1_9 it_2 in_2 dX1_init_98 (K := ?_)
    refine ev_dup (M := T1_init) (pc := 101) dX1_init_101 (k := ?_)
    refine ev_mono (mc := 1 + (0 + (2 * n + 0))) (ms := 8 + (0 + (14 * n + 0))) (by omega) (by omega) ?_
    obtain ⟨h2, hq, H3⟩ := bd_e H2
    clear H2
    refine ev_callIN (M := T1_init) (pc := 102) (mc := 0 + (2 * n + 0)) (ms := 0 + (14 * n + 0)) (st := [.inr (.inr (some (2, (3 * l0 + l3)))), .inl (l3), .inr (.inr (Option.map (Prod.mk 21) (h.2.2 1 l0 2)))]) (I2_init hq) md_X2_init im_X2_init rfl ml_X1_50 dX1_init_102 _ (by decide) (K := ?_)
    obtain ⟨a3, ea3, H4⟩ := bd_e H3
    clear H3
    rw [ea3]
    obtain ⟨⟨hi0, hi1⟩, H5⟩ := g_e H4
    clear H4
    obtain ⟨h4, eh4, H6⟩ := lt_e H5
    clear H5
    refine ev_aastore (M := T1_init) (pc := 105) (k := 21) j_ok0 2 (some (3 * l0 + l3)) hi0 hi1 eh4 dX1_init_105 (hc := ac_21) (K := ?_)
    refine ev_iinc (M := T1_init) (pc := 106) 1 [(3, .inl (w32 (l3 + 1))), (0, .inr (.inr (some (1, l0))))] dX1_init_106 (k := ?_)
    refine ev_goto (M := T1_init) (pc := 109) 88 dX1_init_109 (k := ?_)
    refine ev_mono (mc := 2 * n + 0) (ms := 14 * n + 0) (by omega) (by omega) ?_
    refine ev_lv [1, 0] [(0, .inr (.inr (some (1, l0)))), (3, .inl (w32 (l3 + 1)))] (k := ?_)
    exact hk88 l0 (w32 (l3 + 1)) h4 _ H6
theorem I1_init_88 (n : Nat) : ∀ (l0 : Int) (l3 : Int) (h : JM) (res : JM), F1_init_88 n l0 l3 h = some res → Ev j_W0 3 (2 * n + 0) (14 * n + 0) T1_init 88 [(0, .inr (.inr (some (1, l0)))), (3, .inl (l3))] [] h none res := by
  induction n with
  | zero =>
    intro l0 l3 h res H
    cases H
  | succ n ih =>
    intro l0 l3 h res H
    refine ev_mono (mc := 2 + (2 * n + 0)) (ms := 14 + (14 * n + 0)) (by omega) (by omega) ?_
    exact I1_init_88b n (F1_init_88 n) ih l0 l3 h res H
set_option maxRecDepth 100000 in
set_option maxHeartbeats 4000000 in
theorem I1_init_61b (n : Nat) (k61 : Int → Int → Int → JM → Option JM) (hk61 : ∀ (l0 : Int) (l2 : Int) (l3 : Int) (h : JM) (res : JM), k61 l0 l2 l3 h = some res → Ev j_W0 3 (1 * n + 200) (6 * n + 1400) T1_init 61 [(0, .inr (.inr (some (1, l0)))), (2, .inl (l2)), (3, .inl (l3))] [] h none res) (l0 : Int) (l2 : Int) (l3 : Int) (h : JM) (res : JM) (H : F1_init_61b k61 l0 l2 l3 h = some res) : Ev j_W0 3 (1 + (1 * n + 200)) (6 + (6 * n + 1400)) T1_init 61 [(0, .inr (.inr (some (1, l0)))), (2, .inl (l2)), (3, .inl (l3))] [] h none res := by
  unfold F1_init_61b at H
  refine ev_iload_n (M := T1_init) (pc := 61) 2 dX1_init_61 (k := ?_)
  refine ev_iload_n (M := T1_init) (pc := 62) 1 dX1_init_62 (k := ?_)
  refine ev_icmpge (M := T1_init) (pc := 63) 86 dX1_init_63 (kt := fun hc => ?_) (kf := fun hc => ?_)
  · replace H := if_pe hc H
    refine ev_iconst (M := T1_init) (pc := 86) dX1_init_86 (k := ?_)
    refine ev_istore_n (M := T1_init) (pc := 87) [(3, .inl (0)), (0, .inr (.inr (some (1, l0)))), (2, .inl (l2))] dX1_init_87 (k := ?_)
    have hf0 : j_f0 = 100 := rfl
    refine ev_mono (mc := 2 * j_f0 + 0) (ms := 14 * j_f0 + 0) (by omega) (by omega) ?_
    refine ev_lv [1, 0] [(0, .inr (.inr (some (1, l0)))), (3, .inl (0))] (k := ?_)
    exact I1_init_88 j_f0 l0 0 h _ H
  · replace H := if_ne hc H
    refine ev_aload_n (M := T1_init) (pc := 66) 0 dX1_init_66 (k := ?_)
    refine ev_getR (M := T1_init) (pc := 67) (t := 20) (x := Option.map (Prod.mk 20) (h.2.2 1 l0 1)) fl_X1_43 dX1_init_67  (K := ?_)
    refine ev_iload_n (M := T1_init) (pc := 70) 2 dX1_init_70 (k := ?_)
    refine ev_mono (mc := 1 + (0 + (1 * n + 200))) (ms := j_N 8 + (0 + (6 * n + 1400))) (by omega) (by show 6 + _ ≤ _; omega) ?_
    obtain ⟨hn, H1⟩ := g_e H
    clear H
    obtain ⟨h5, eh5, H2⟩ := lt_e H1
    clear H1
    refine ev_new (M := T1_init) (pc := 71) (k := 8) (mc := 0 + (1 * n + 200)) (ms := 0 + (6 * n + 1400)) (16 * l0 + l3) (j_wn0 0 (by decide) hn) eh5 ck_X1_41 it_8 in_8 dX1_init_71 (K := ?_)
    refine ev_dup (M := T1_init) (pc := 74) dX1_init_74 (k := ?_)
    refine ev_iload_n (M := T1_init) (pc := 75) 2 dX1_init_75 (k := ?_)
    refine ev_mono (mc := 0 + (0 + (1 * n + 200))) (ms := 0 + (0 + (6 * n + 1400))) (by omega) (by omega) ?_
    obtain ⟨h6, hq, H3⟩ := bd_e H2
    clear H2
    refine ev_callI (M := T1_init) (pc := 76) (mc := 0 + (1 * n + 200)) (ms := 0 + (6 * n + 1400)) (st := [.inr (.inr (some (8, (16 * l0 + l3)))), .inl (l3), .inr (.inr (Option.map (Prod.mk 20) (h.2.2 1 l0 1)))]) (I8_init hq) md_X8_init im_X8_init rfl ml_X1_47 dX1_init_76 _ (by decide) (K := ?_)
    obtain ⟨a7, ea7, H4⟩ := bd_e H3
    clear H3
    rw [ea7]
    obtain ⟨⟨hi0, hi1⟩, H5⟩ := g_e H4
    clear H4
    obtain ⟨h8, eh8, H6⟩ := lt_e H5
    clear H5
    refine ev_aastore (M := T1_init) (pc := 79) (k := 20) j_ok0 8 (some (16 * l0 + l3)) hi0 hi1 eh8 dX1_init_79 (hc := ac_20) (K := ?_)
    refine ev_iinc (M := T1_init) (pc := 80) 2 [(3, .inl (w32 (l3 + 1))), (0, .inr (.inr (some (1, l0)))), (2, .inl (l2))] dX1_init_80 (k := ?_)
    refine ev_goto (M := T1_init) (pc := 83) 61 dX1_init_83 (k := ?_)
    refine ev_mono (mc := 1 * n + 200) (ms := 6 * n + 1400) (by omega) (by omega) ?_
    refine ev_lv [1, 2, 0] [(0, .inr (.inr (some (1, l0)))), (2, .inl (l2)), (3, .inl (w32 (l3 + 1)))] (k := ?_)
    exact hk61 l0 l2 (w32 (l3 + 1)) h8 _ H6
theorem I1_init_61 (n : Nat) : ∀ (l0 : Int) (l2 : Int) (l3 : Int) (h : JM) (res : JM), F1_init_61 n l0 l2 l3 h = some res → Ev j_W0 3 (1 * n + 200) (6 * n + 1400) T1_init 61 [(0, .inr (.inr (some (1, l0)))), (2, .inl (l2)), (3, .inl (l3))] [] h none res := by
  induction n with
  | zero =>
    intro l0 l2 l3 h res H
    cases H
  | succ n ih =>
    intro l0 l2 l3 h res H
    refine ev_mono (mc := 1 + (1 * n + 200)) (ms := 6 + (6 * n + 1400)) (by omega) (by omega) ?_
    exact I1_init_61b n (F1_init_61 n) ih l0 l2 l3 h res H
set_option maxRecDepth 100000 in
set_option maxHeartbeats 4000000 in
theorem I1_init {l0 : Int} {l1 : Int} {l2 : Int} {h : JM} {res : JM} (H : F1_init l0 l1 l2 h = some res) : Cn j_W0 3 509 3608 yX1_init cX1_init 4 none [.inr (.inr (some (1, l0))), .inl (l1), .inl (l2)] h none res := by
  refine Cn.by (own := RX1) (b := true) [(0, .inr (.inr (some (1, l0)))), (1, .inl (l1)), (2, .inl (l2))] rfl (fun _ => rfl) (by decide +kernel) (K := ?_)
  unfold F1_init at H
  refine ev_aload_n (M := T1_init) (pc := 0) 0 dX1_init_0 (k := ?_)
  refine ev_objInit (M := T1_init) (pc := 1) (n0 := _) ml_X1_3 j_oi j_oc dX1_init_1 (by decide) (K := ?_)
  refine ev_aload_n (M := T1_init) (pc := 4) 0 dX1_init_4 (k := ?_)
  refine ev_iconst (M := T1_init) (pc := 5) dX1_init_5 (k := ?_)
  obtain ⟨hn, H1⟩ := g_e H
  clear H
  refine ev_mono (mc := 1 + (508)) (ms := (3 : Int).toNat + (3605)) (by omega) (by show 3 + _ ≤ _; omega) ?_
  obtain ⟨h9, eh9, H2⟩ := lt_e H1
  clear H1
  refine ev_anew (M := T1_init) (pc := 6) (k := 21) (t := 2) (mc := 508) (ms := 3605) (len := 3) l0 (j_wn0 _ (by decide) hn) eh9 (by decide) (by decide) ck_X1_9 ao_2 dX1_init_6 (K := ?_)
  obtain ⟨h10, eh10, H3⟩ := lt_e H2
  clear H2
  refine ev_putRF (M := T1_init) (pc := 9) (t := 21) j_ok0 (some l0) fl_X1_11 eh10 (hdg := dX1_init_9) (K := ?_)
  refine ev_aload_n (M := T1_init) (pc := 12) 0 dX1_init_12 (k := ?_)
  refine ev_bipush (M := T1_init) (pc := 13) dX1_init_13 (k := ?_)
  obtain ⟨hn, H4⟩ := g_e H3
  clear H3
  refine ev_mono (mc := 1 + (507)) (ms := (24 : Int).toNat + (3581)) (by omega) (by show 24 + _ ≤ _; omega) ?_
  obtain ⟨h11, eh11, H5⟩ := lt_e H4
  clear H4
  refine ev_anew (M := T1_init) (pc := 15) (k := 22) (t := 6) (mc := 507) (ms := 3581) (len := 24) l0 (j_wn0 _ (by decide) hn) eh11 (by decide) (by decide) ck_X1_17 ao_6 dX1_init_15 (K := ?_)
  obtain ⟨h12, eh12, H6⟩ := lt_e H5
  clear H5
  refine ev_putRF (M := T1_init) (pc := 18) (t := 22) j_ok0 (some l0) fl_X1_19 eh12 (hdg := dX1_init_18) (K := ?_)
  refine ev_aload_n (M := T1_init) (pc := 21) 0 dX1_init_21 (k := ?_)
  refine ev_iconst (M := T1_init) (pc := 22) dX1_init_22 (k := ?_)
  obtain ⟨hn, H7⟩ := g_e H6
  clear H6
  refine ev_mono (mc := 1 + (506)) (ms := (2 : Int).toNat + (3579)) (by omega) (by show 2 + _ ≤ _; omega) ?_
  obtain ⟨h13, eh13, H8⟩ := lt_e H7
  clear H7
  refine ev_newI (M := T1_init) (pc := 23) (k := 23) (mc := 506) (ms := 3579) (len := 2) l0 (j_wn0 _ (by decide) hn) eh13 (by decide) (by decide) dX1_init_23 (K := ?_)
  obtain ⟨h14, eh14, H9⟩ := lt_e H8
  clear H8
  refine ev_putRF (M := T1_init) (pc := 25) (t := 23) j_ok0 (some l0) fl_X1_23 eh14 (hdg := dX1_init_25) (K := ?_)
  refine ev_aload_n (M := T1_init) (pc := 28) 0 dX1_init_28 (k := ?_)
  refine ev_iconst (M := T1_init) (pc := 29) dX1_init_29 (k := ?_)
  obtain ⟨hn, H10⟩ := g_e H9
  clear H9
  refine ev_mono (mc := 1 + (505)) (ms := (2 : Int).toNat + (3577)) (by omega) (by show 2 + _ ≤ _; omega) ?_
  obtain ⟨h15, eh15, H11⟩ := lt_e H10
  clear H10
  refine ev_newI (M := T1_init) (pc := 30) (k := 24) (mc := 505) (ms := 3577) (len := 2) l0 (j_wn0 _ (by decide) hn) eh15 (by decide) (by decide) dX1_init_30 (K := ?_)
  obtain ⟨h16, eh16, H12⟩ := lt_e H11
  clear H11
  refine ev_putRF (M := T1_init) (pc := 32) (t := 24) j_ok0 (some l0) fl_X1_27 eh16 (hdg := dX1_init_32) (K := ?_)
  refine ev_aload_n (M := T1_init) (pc := 35) 0 dX1_init_35 (k := ?_)
  refine ev_mono (mc := 1 + (504)) (ms := j_N 5 + (3566)) (by omega) (by show 11 + _ ≤ _; omega) ?_
  obtain ⟨hn, H13⟩ := g_e H12
  clear H12
  obtain ⟨h17, eh17, H14⟩ := lt_e H13
  clear H13
  refine ev_new (M := T1_init) (pc := 36) (k := 5) (mc := 504) (ms := 3566) l0 (j_wn0 0 (by decide) hn) eh17 ck_X1_30 it_5 in_5 dX1_init_36 (K := ?_)
  refine ev_dup (M := T1_init) (pc := 39) dX1_init_39 (k := ?_)
  refine ev_mono (mc := 203 + (301)) (ms := 1466 + (2100)) (by omega) (by omega) ?_
  obtain ⟨h18, hq, H15⟩ := bd_e H14
  clear H14
  refine ev_callI (M := T1_init) (pc := 40) (mc := 301) (ms := 2100) (st := [.inr (.inr (some (5, l0))), .inr (.inr (some (1, l0)))]) (I5_init hq) md_X5_init im_X5_init rfl ml_X1_32 dX1_init_40 _ (by decide) (K := ?_)
  obtain ⟨h19, eh19, H16⟩ := lt_e H15
  clear H15
  refine ev_putRF (M := T1_init) (pc := 43) (t := 5) j_ok0 (some l0) fl_X1_33 eh19 (hdg := dX1_init_43) (K := ?_)
  refine ev_aload_n (M := T1_init) (pc := 46) 0 dX1_init_46 (k := ?_)
  refine ev_iload_n (M := T1_init) (pc := 47) 1 dX1_init_47 (k := ?_)
  obtain ⟨h20, eh20, H17⟩ := lt_e H16
  clear H16
  refine ev_putIF (M := T1_init) (pc := 48) j_ok0 fl_X1_37 eh20 dX1_init_48 (K := ?_)
  refine ev_aload_n (M := T1_init) (pc := 51) 0 dX1_init_51 (k := ?_)
  refine ev_iload_n (M := T1_init) (pc := 52) 2 dX1_init_52 (k := ?_)
  obtain ⟨⟨hn, hl0, hl1⟩, H18⟩ := g_e H17
  clear H17
  refine ev_mono (mc := 1 + (300)) (ms := (l2 : Int).toNat + (2000)) (by omega) (by omega) ?_
  obtain ⟨h21, eh21, H19⟩ := lt_e H18
  clear H18
  refine ev_anew (M := T1_init) (pc := 53) (k := 20) (t := 8) (mc := 300) (ms := 2000) (len := l2) l0 (j_wn0 _ (by decide) hn) eh21 hl0 (by omega) ck_X1_41 ao_8 dX1_init_53 (K := ?_)
  obtain ⟨h22, eh22, H20⟩ := lt_e H19
  clear H19
  refine ev_putRF (M := T1_init) (pc := 56) (t := 20) j_ok0 (some l0) fl_X1_43 eh22 (hdg := dX1_init_56) (K := ?_)
  refine ev_iconst (M := T1_init) (pc := 59) dX1_init_59 (k := ?_)
  refine ev_istore_n (M := T1_init) (pc := 60) [(3, .inl (0)), (0, .inr (.inr (some (1, l0)))), (1, .inl (l1)), (2, .inl (l2))] dX1_init_60 (k := ?_)
  have hf0 : j_f0 = 100 := rfl
  refine ev_mono (mc := 1 * j_f0 + 200) (ms := 6 * j_f0 + 1400) (by omega) (by omega) ?_
  refine ev_lv [1, 3, 0] [(0, .inr (.inr (some (1, l0)))), (2, .inl (l2)), (3, .inl (0))] (k := ?_)
  exact I1_init_61 j_f0 l0 l2 0 h22 _ H20
-- X4_init
abbrev T4_init : JT := (RX4, cX4_init, 2, none, true)
set_option maxRecDepth 100000 in
set_option maxHeartbeats 4000000 in
theorem I4_init {l0 : Int} {l1 : Int} {h : JM} {res : JM} (H : F4_init l0 l1 h = some res) : Cn j_W0 1 3 26 yX4_init cX4_init 2 none [.inr (.inr (some (4, l0))), .inl (l1)] h none res := by
  refine Cn.by (own := RX4) (b := true) [(0, .inr (.inr (some (4, l0)))), (1, .inl (l1))] rfl (fun _ => rfl) (by decide +kernel) (K := ?_)
  unfold F4_init at H
  refine ev_aload_n (M := T4_init) (pc := 0) 0 dX4_init_0 (k := ?_)
  refine ev_objInit (M := T4_init) (pc := 1) (n0 := _) ml_X4_3 j_oi j_oc dX4_init_1 (by decide) (K := ?_)
  refine ev_aload_n (M := T4_init) (pc := 4) 0 dX4_init_4 (k := ?_)
  refine ev_iconst (M := T4_init) (pc := 5) dX4_init_5 (k := ?_)
  obtain ⟨hn, H1⟩ := g_e H
  clear H
  refine ev_mono (mc := 1 + (2)) (ms := (3 : Int).toNat + (23)) (by omega) (by show 3 + _ ≤ _; omega) ?_
  obtain ⟨h1, eh1, H2⟩ := lt_e H1
  clear H1
  refine ev_newZ (M := T4_init) (pc := 6) (k := 28) (mc := 2) (ms := 23) (len := 3) l0 (j_wn0 _ (by decide) hn) eh1 (by decide) (by decide) dX4_init_6 (K := ?_)
  obtain ⟨h2, eh2, H3⟩ := lt_e H2
  clear H2
  refine ev_putRF (M := T4_init) (pc := 8) (t := 28) j_ok0 (some l0) fl_X4_9 eh2 (hdg := dX4_init_8) (K := ?_)
  refine ev_aload_n (M := T4_init) (pc := 11) 0 dX4_init_11 (k := ?_)
  refine ev_iconst (M := T4_init) (pc := 12) dX4_init_12 (k := ?_)
  obtain ⟨hn, H4⟩ := g_e H3
  clear H3
  refine ev_mono (mc := 1 + (1)) (ms := (3 : Int).toNat + (20)) (by omega) (by show 3 + _ ≤ _; omega) ?_
  obtain ⟨h3, eh3, H5⟩ := lt_e H4
  clear H4
  refine ev_newJ (M := T4_init) (pc := 13) (k := 29) (mc := 1) (ms := 20) (len := 3) l0 (j_wn0 _ (by decide) hn) eh3 (by decide) (by decide) dX4_init_13 (K := ?_)
  obtain ⟨h4, eh4, H6⟩ := lt_e H5
  clear H5
  refine ev_putRF (M := T4_init) (pc := 15) (t := 29) j_ok0 (some l0) fl_X4_15 eh4 (hdg := dX4_init_15) (K := ?_)
  refine ev_aload_n (M := T4_init) (pc := 18) 0 dX4_init_18 (k := ?_)
  refine ev_bipush (M := T4_init) (pc := 19) dX4_init_19 (k := ?_)
  obtain ⟨hn, H7⟩ := g_e H6
  clear H6
  refine ev_mono (mc := 1 + (0)) (ms := (20 : Int).toNat + (0)) (by omega) (by show 20 + _ ≤ _; omega) ?_
  obtain ⟨h5, eh5, H8⟩ := lt_e H7
  clear H7
  refine ev_newB (M := T4_init) (pc := 21) (k := 30) (mc := 0) (ms := 0) (len := 20) l0 (j_wn0 _ (by decide) hn) eh5 (by decide) (by decide) dX4_init_21 (K := ?_)
  obtain ⟨h6, eh6, H9⟩ := lt_e H8
  clear H8
  refine ev_putRF (M := T4_init) (pc := 23) (t := 30) j_ok0 (some l0) fl_X4_19 eh6 (hdg := dX4_init_23) (K := ?_)
  refine ev_aload_n (M := T4_init) (pc := 26) 0 dX4_init_26 (k := ?_)
  refine ev_iconst (M := T4_init) (pc := 27) dX4_init_27 (k := ?_)
  obtain ⟨h7, eh7, H10⟩ := lt_e H9
  clear H9
  refine ev_putI (M := T4_init) (pc := 28) j_ok0 fl_X4_23 eh7 dX4_init_28 (K := ?_)
  refine ev_aload_n (M := T4_init) (pc := 31) 0 dX4_init_31 (k := ?_)
  refine ev_iload_n (M := T4_init) (pc := 32) 1 dX4_init_32 (k := ?_)
  obtain ⟨h8, eh8, H11⟩ := lt_e H10
  clear H10
  refine ev_putIF (M := T4_init) (pc := 33) j_ok0 fl_X4_27 eh8 dX4_init_33 (K := ?_)
  cases H11
  exact ev_return (M := T4_init) (pc := 36) dX4_init_36
-- X3_init
abbrev T3_init : JT := (RX3, cX3_init, 2, none, true)
set_option maxRecDepth 100000 in
set_option maxHeartbeats 4000000 in
theorem I3_init_23b (n : Nat) (k23 : Int → JM → Option JM) (hk23 : ∀ (l1 : Int) (h : JM) (res : JM), k23 l1 h = some res → Ev j_W0 1 (0 * n + 0) (0 * n + 0) T3_init 23 [(0, .inr (.inr (some (3, 0)))), (1, .inl (l1))] [] h none res) (l1 : Int) (h : JM) (res : JM) (H : F3_init_23b k23 l1 h = some res) : Ev j_W0 1 (0 + (0 * n + 0)) (0 + (0 * n + 0)) T3_init 23 [(0, .inr (.inr (some (3, 0)))), (1, .inl (l1))] [] h none res := by
  unfold F3_init_23b at H
  refine ev_iload_n (M := T3_init) (pc := 23) 1 dX3_init_23 (k := ?_)
  refine ev_iconst (M := T3_init) (pc := 24) dX3_init_24 (k := ?_)
  refine ev_icmpge (M := T3_init) (pc := 25) 46 dX3_init_25 (kt := fun hc => ?_) (kf := fun hc => ?_)
  · replace H := if_pe hc H
    cases H
    exact ev_return (M := T3_init) (pc := 46) dX3_init_46
  · replace H := if_ne hc H
    refine ev_aload_n (M := T3_init) (pc := 28) 0 dX3_init_28 (k := ?_)
    refine ev_getR (M := T3_init) (pc := 29) (t := 26) (x := Option.map (Prod.mk 26) (h.2.2 3 0 0)) fl_X3_9 dX3_init_29  (K := ?_)
    refine ev_iload_n (M := T3_init) (pc := 32) 1 dX3_init_32 (k := ?_)
    refine ev_iconst (M := T3_init) (pc := 33) dX3_init_33 (k := ?_)
    refine ev_imul (M := T3_init) (pc := 34) dX3_init_34 (k := ?_)
    refine ev_iconst (M := T3_init) (pc := 35) dX3_init_35 (k := ?_)
    refine ev_iadd (M := T3_init) (pc := 36) dX3_init_36 (k := ?_)
    refine ev_bipush (M := T3_init) (pc := 37) dX3_init_37 (k := ?_)
    obtain ⟨a1, ea1, H1⟩ := bd_e H
    clear H
    rw [ea1]
    obtain ⟨⟨hi0, hi1⟩, H2⟩ := g_e H1
    clear H1
    obtain ⟨h2, eh2, H3⟩ := lt_e H2
    clear H2
    refine ev_iastore (M := T3_init) (pc := 39) (k := 26) j_ok0 hi0 hi1 eh2 dX3_init_39 (hc := ac_26) (K := ?_)
    refine ev_iinc (M := T3_init) (pc := 40) 1 [(1, .inl (w32 (l1 + 1))), (0, .inr (.inr (some (3, 0))))] dX3_init_40 (k := ?_)
    refine ev_goto (M := T3_init) (pc := 43) 23 dX3_init_43 (k := ?_)
    refine ev_mono (mc := 0 * n + 0) (ms := 0 * n + 0) (by omega) (by omega) ?_
    refine ev_lv [1, 0] [(0, .inr (.inr (some (3, 0)))), (1, .inl (w32 (l1 + 1)))] (k := ?_)
    exact hk23 (w32 (l1 + 1)) h2 _ H3
theorem I3_init_23 (n : Nat) : ∀ (l1 : Int) (h : JM) (res : JM), F3_init_23 n l1 h = some res → Ev j_W0 1 (0 * n + 0) (0 * n + 0) T3_init 23 [(0, .inr (.inr (some (3, 0)))), (1, .inl (l1))] [] h none res := by
  induction n with
  | zero =>
    intro l1 h res H
    cases H
  | succ n ih =>
    intro l1 h res H
    refine ev_mono (mc := 0 + (0 * n + 0)) (ms := 0 + (0 * n + 0)) (by omega) (by omega) ?_
    exact I3_init_23b n (F3_init_23 n) ih l1 h res H
set_option maxRecDepth 100000 in
set_option maxHeartbeats 4000000 in
theorem I3_init {h : JM} {res : JM} (H : F3_init h = some res) : Cn j_W0 1 2 1516 yX3_init cX3_init 2 none [.inr (.inr (some (3, 0)))] h none res := by
  refine Cn.by (own := RX3) (b := true) [(0, .inr (.inr (some (3, 0))))] rfl (fun _ => rfl) (by decide +kernel) (K := ?_)
  unfold F3_init at H
  refine ev_aload_n (M := T3_init) (pc := 0) 0 dX3_init_0 (k := ?_)
  refine ev_objInit (M := T3_init) (pc := 1) (n0 := _) ml_X3_3 j_oi j_oc dX3_init_1 (by decide) (K := ?_)
  refine ev_aload_n (M := T3_init) (pc := 4) 0 dX3_init_4 (k := ?_)
  refine ev_bipush (M := T3_init) (pc := 5) dX3_init_5 (k := ?_)
  obtain ⟨hn, H1⟩ := g_e H
  clear H
  refine ev_mono (mc := 1 + (1)) (ms := (16 : Int).toNat + (1500)) (by omega) (by show 16 + _ ≤ _; omega) ?_
  obtain ⟨h3, eh3, H2⟩ := lt_e H1
  clear H1
  refine ev_newI (M := T3_init) (pc := 7) (k := 26) (mc := 1) (ms := 1500) (len := 16) 0 (j_wn0 _ (by decide) hn) eh3 (by decide) (by decide) dX3_init_7 (K := ?_)
  obtain ⟨h4, eh4, H3⟩ := lt_e H2
  clear H2
  refine ev_putRF (M := T3_init) (pc := 9) (t := 26) j_ok0 (some 0) fl_X3_9 eh4 (hdg := dX3_init_9) (K := ?_)
  refine ev_aload_n (M := T3_init) (pc := 12) 0 dX3_init_12 (k := ?_)
  refine ev_sipush (M := T3_init) (pc := 13) dX3_init_13 (k := ?_)
  obtain ⟨hn, H4⟩ := g_e H3
  clear H3
  refine ev_mono (mc := 1 + (0)) (ms := (1500 : Int).toNat + (0)) (by omega) (by show 1500 + _ ≤ _; omega) ?_
  obtain ⟨h5, eh5, H5⟩ := lt_e H4
  clear H4
  refine ev_newI (M := T3_init) (pc := 16) (k := 27) (mc := 0) (ms := 0) (len := 1500) 0 (j_wn0 _ (by decide) hn) eh5 (by decide) (by decide) dX3_init_16 (K := ?_)
  obtain ⟨h6, eh6, H6⟩ := lt_e H5
  clear H5
  refine ev_putRF (M := T3_init) (pc := 18) (t := 27) j_ok0 (some 0) fl_X3_15 eh6 (hdg := dX3_init_18) (K := ?_)
  refine ev_iconst (M := T3_init) (pc := 21) dX3_init_21 (k := ?_)
  refine ev_istore_n (M := T3_init) (pc := 22) [(1, .inl (0)), (0, .inr (.inr (some (3, 0))))] dX3_init_22 (k := ?_)
  have hf0 : j_f0 = 100 := rfl
  refine ev_mono (mc := 0 * j_f0 + 0) (ms := 0 * j_f0 + 0) (by omega) (by omega) ?_
  refine ev_lv [1, 0] [(0, .inr (.inr (some (3, 0)))), (1, .inl (0))] (k := ?_)
  exact I3_init_23 j_f0 0 h6 _ H6
-- X7_init
abbrev T7_init : JT := (RX7, cX7_init, 1, none, true)
set_option maxRecDepth 100000 in
set_option maxHeartbeats 4000000 in
theorem I7_init {l0 : Int} {h : JM} {res : JM} (H : F7_init l0 h = some res) : Cn j_W0 1 2 600 yX7_init cX7_init 1 none [.inr (.inr (some (7, l0)))] h none res := by
  refine Cn.by (own := RX7) (b := true) [(0, .inr (.inr (some (7, l0))))] rfl (fun _ => rfl) (by decide +kernel) (K := ?_)
  unfold F7_init at H
  refine ev_aload_n (M := T7_init) (pc := 0) 0 dX7_init_0 (k := ?_)
  refine ev_objInit (M := T7_init) (pc := 1) (n0 := _) ml_X7_3 j_oi j_oc dX7_init_1 (by decide) (K := ?_)
  refine ev_aload_n (M := T7_init) (pc := 4) 0 dX7_init_4 (k := ?_)
  refine ev_sipush (M := T7_init) (pc := 5) dX7_init_5 (k := ?_)
  obtain ⟨hn, H1⟩ := g_e H
  clear H
  refine ev_mono (mc := 1 + (1)) (ms := (300 : Int).toNat + (300)) (by omega) (by show 300 + _ ≤ _; omega) ?_
  obtain ⟨h1, eh1, H2⟩ := lt_e H1
  clear H1
  refine ev_newI (M := T7_init) (pc := 8) (k := 34) (mc := 1) (ms := 300) (len := 300) l0 (j_wn0 _ (by decide) hn) eh1 (by decide) (by decide) dX7_init_8 (K := ?_)
  obtain ⟨h2, eh2, H3⟩ := lt_e H2
  clear H2
  refine ev_putRF (M := T7_init) (pc := 10) (t := 34) j_ok0 (some l0) fl_X7_9 eh2 (hdg := dX7_init_10) (K := ?_)
  refine ev_aload_n (M := T7_init) (pc := 13) 0 dX7_init_13 (k := ?_)
  refine ev_sipush (M := T7_init) (pc := 14) dX7_init_14 (k := ?_)
  obtain ⟨hn, H4⟩ := g_e H3
  clear H3
  refine ev_mono (mc := 1 + (0)) (ms := (300 : Int).toNat + (0)) (by omega) (by show 300 + _ ≤ _; omega) ?_
  obtain ⟨h3, eh3, H5⟩ := lt_e H4
  clear H4
  refine ev_newI (M := T7_init) (pc := 17) (k := 35) (mc := 0) (ms := 0) (len := 300) l0 (j_wn0 _ (by decide) hn) eh3 (by decide) (by decide) dX7_init_17 (K := ?_)
  obtain ⟨h4, eh4, H6⟩ := lt_e H5
  clear H5
  refine ev_putRF (M := T7_init) (pc := 19) (t := 35) j_ok0 (some l0) fl_X7_15 eh4 (hdg := dX7_init_19) (K := ?_)
  cases H6
  exact ev_return (M := T7_init) (pc := 22) dX7_init_22
-- X10_init
abbrev T10_init : JT := (RX10, cX10_init, 1, none, true)
set_option maxRecDepth 100000 in
set_option maxHeartbeats 4000000 in
theorem I10_init {h : JM} {res : JM} (H : F10_init h = some res) : Cn j_W0 1 2 512 yX10_init cX10_init 1 none [.inr (.inr (some (10, 0)))] h none res := by
  refine Cn.by (own := RX10) (b := true) [(0, .inr (.inr (some (10, 0))))] rfl (fun _ => rfl) (by decide +kernel) (K := ?_)
  unfold F10_init at H
  refine ev_aload_n (M := T10_init) (pc := 0) 0 dX10_init_0 (k := ?_)
  refine ev_objInit (M := T10_init) (pc := 1) (n0 := _) ml_X10_3 j_oi j_oc dX10_init_1 (by decide) (K := ?_)
  refine ev_aload_n (M := T10_init) (pc := 4) 0 dX10_init_4 (k := ?_)
  refine ev_sipush (M := T10_init) (pc := 5) dX10_init_5 (k := ?_)
  obtain ⟨hn, H1⟩ := g_e H
  clear H
  refine ev_mono (mc := 1 + (1)) (ms := (256 : Int).toNat + (256)) (by omega) (by show 256 + _ ≤ _; omega) ?_
  obtain ⟨h1, eh1, H2⟩ := lt_e H1
  clear H1
  refine ev_newB (M := T10_init) (pc := 8) (k := 36) (mc := 1) (ms := 256) (len := 256) 0 (j_wn0 _ (by decide) hn) eh1 (by decide) (by decide) dX10_init_8 (K := ?_)
  obtain ⟨h2, eh2, H3⟩ := lt_e H2
  clear H2
  refine ev_putRF (M := T10_init) (pc := 10) (t := 36) j_ok0 (some 0) fl_X10_9 eh2 (hdg := dX10_init_10) (K := ?_)
  refine ev_aload_n (M := T10_init) (pc := 13) 0 dX10_init_13 (k := ?_)
  refine ev_sipush (M := T10_init) (pc := 14) dX10_init_14 (k := ?_)
  obtain ⟨hn, H4⟩ := g_e H3
  clear H3
  refine ev_mono (mc := 1 + (0)) (ms := (256 : Int).toNat + (0)) (by omega) (by show 256 + _ ≤ _; omega) ?_
  obtain ⟨h3, eh3, H5⟩ := lt_e H4
  clear H4
  refine ev_newB (M := T10_init) (pc := 17) (k := 37) (mc := 0) (ms := 0) (len := 256) 0 (j_wn0 _ (by decide) hn) eh3 (by decide) (by decide) dX10_init_17 (K := ?_)
  obtain ⟨h4, eh4, H6⟩ := lt_e H5
  clear H5
  refine ev_putRF (M := T10_init) (pc := 19) (t := 37) j_ok0 (some 0) fl_X10_15 eh4 (hdg := dX10_init_19) (K := ?_)
  cases H6
  exact ev_return (M := T10_init) (pc := 22) dX10_init_22
-- X11_init
abbrev T11_init : JT := (RX11, cX11_init, 4, none, true)
set_option maxRecDepth 100000 in
set_option maxHeartbeats 4000000 in
theorem I11_init_259b (n : Nat) (k259 : Int → JM → Option JM) (hk259 : ∀ (l3 : Int) (h : JM) (res : JM), k259 l3 h = some res → Ev j_W0 4 (1 * n + 0) (16 * n + 0) T11_init 259 [(0, .inr (.inr (some (11, 0)))), (3, .inl (l3))] [] h none res) (l3 : Int) (h : JM) (res : JM) (H : F11_init_259b k259 l3 h = some res) : Ev j_W0 4 (1 + (1 * n + 0)) (16 + (16 * n + 0)) T11_init 259 [(0, .inr (.inr (some (11, 0)))), (3, .inl (l3))] [] h none res := by
  unfold F11_init_259b at H
  refine ev_iload_n (M := T11_init) (pc := 259) 1 dX11_init_259 (k := ?_)
  refine ev_bipush (M := T11_init) (pc := 260) dX11_init_260 (k := ?_)
  refine ev_icmpge (M := T11_init) (pc := 262) 284 dX11_init_262 (kt := fun hc => ?_) (kf := fun hc => ?_)
  · replace H := if_pe hc H
    cases H
    exact ev_return (M := T11_init) (pc := 284) dX11_init_284
  · replace H := if_ne hc H
    refine ev_aload_n (M := T11_init) (pc := 265) 0 dX11_init_265 (k := ?_)
    refine ev_getR (M := T11_init) (pc := 266) (t := 40) (x := Option.map (Prod.mk 40) (h.2.2 11 0 4)) fl_X11_23 dX11_init_266  (K := ?_)
    refine ev_iload_n (M := T11_init) (pc := 269) 1 dX11_init_269 (k := ?_)
    refine ev_mono (mc := 1 + (0 + (1 * n + 0))) (ms := j_N 0 + (0 + (16 * n + 0))) (by omega) (by show 16 + _ ≤ _; omega) ?_
    obtain ⟨hn, H1⟩ := g_e H
    clear H
    obtain ⟨h1, eh1, H2⟩ := lt_e H1
    clear H1
    refine ev_new (M := T11_init) (pc := 270) (k := 0) (mc := 0 + (1 * n + 0)) (ms := 0 + (16 * n + 0)) l3 (j_wn0 0 (by decide) hn) eh1 ck_X11_21 it_0 in_0 dX11_init_270 (K := ?_)
    refine ev_dup (M := T11_init) (pc := 273) dX11_init_273 (k := ?_)
    refine ev_mono (mc := 0 + (0 + (1 * n + 0))) (ms := 0 + (0 + (16 * n + 0))) (by omega) (by omega) ?_
    obtain ⟨h2, hq, H3⟩ := bd_e H2
    clear H2
    refine ev_callIN (M := T11_init) (pc := 274) (mc := 0 + (1 * n + 0)) (ms := 0 + (16 * n + 0)) (st := [.inr (.inr (some (0, l3))), .inl (l3), .inr (.inr (Option.map (Prod.mk 40) (h.2.2 11 0 4)))]) (I0_init hq) md_X0_init im_X0_init rfl ml_X11_78 dX11_init_274 _ (by decide) (K := ?_)
    obtain ⟨a3, ea3, H4⟩ := bd_e H3
    clear H3
    rw [ea3]
    obtain ⟨⟨hi0, hi1⟩, H5⟩ := g_e H4
    clear H4
    obtain ⟨h4, eh4, H6⟩ := lt_e H5
    clear H5
    refine ev_aastore (M := T11_init) (pc := 277) (k := 40) j_ok0 0 (some l3) hi0 hi1 eh4 dX11_init_277 (hc := ac_40) (K := ?_)
    refine ev_iinc (M := T11_init) (pc := 278) 1 [(3, .inl (w32 (l3 + 1))), (0, .inr (.inr (some (11, 0))))] dX11_init_278 (k := ?_)
    refine ev_goto (M := T11_init) (pc := 281) 259 dX11_init_281 (k := ?_)
    refine ev_mono (mc := 1 * n + 0) (ms := 16 * n + 0) (by omega) (by omega) ?_
    refine ev_lv [1, 0] [(0, .inr (.inr (some (11, 0)))), (3, .inl (w32 (l3 + 1)))] (k := ?_)
    exact hk259 (w32 (l3 + 1)) h4 _ H6
theorem I11_init_259 (n : Nat) : ∀ (l3 : Int) (h : JM) (res : JM), F11_init_259 n l3 h = some res → Ev j_W0 4 (1 * n + 0) (16 * n + 0) T11_init 259 [(0, .inr (.inr (some (11, 0)))), (3, .inl (l3))] [] h none res := by
  induction n with
  | zero =>
    intro l3 h res H
    cases H
  | succ n ih =>
    intro l3 h res H
    refine ev_mono (mc := 1 + (1 * n + 0)) (ms := 16 + (16 * n + 0)) (by omega) (by omega) ?_
    exact I11_init_259b n (F11_init_259 n) ih l3 h res H
set_option maxRecDepth 100000 in
set_option maxHeartbeats 4000000 in
theorem I11_init_231b (n : Nat) (k231 : Int → JM → Option JM) (hk231 : ∀ (l3 : Int) (h : JM) (res : JM), k231 l3 h = some res → Ev j_W0 4 (4 * n + 100) (46 * n + 1600) T11_init 231 [(0, .inr (.inr (some (11, 0)))), (3, .inl (l3))] [] h none res) (l3 : Int) (h : JM) (res : JM) (H : F11_init_231b k231 l3 h = some res) : Ev j_W0 4 (4 + (4 * n + 100)) (46 + (46 * n + 1600)) T11_init 231 [(0, .inr (.inr (some (11, 0)))), (3, .inl (l3))] [] h none res := by
  unfold F11_init_231b at H
  refine ev_iload_n (M := T11_init) (pc := 231) 1 dX11_init_231 (k := ?_)
  refine ev_bipush (M := T11_init) (pc := 232) dX11_init_232 (k := ?_)
  refine ev_icmpge (M := T11_init) (pc := 234) 257 dX11_init_234 (kt := fun hc => ?_) (kf := fun hc => ?_)
  · replace H := if_pe hc H
    refine ev_iconst (M := T11_init) (pc := 257) dX11_init_257 (k := ?_)
    refine ev_istore_n (M := T11_init) (pc := 258) [(3, .inl (0)), (0, .inr (.inr (some (11, 0))))] dX11_init_258 (k := ?_)
    have hf0 : j_f0 = 100 := rfl
    refine ev_mono (mc := 1 * j_f0 + 0) (ms := 16 * j_f0 + 0) (by omega) (by omega) ?_
    refine ev_lv [1, 0] [(0, .inr (.inr (some (11, 0)))), (3, .inl (0))] (k := ?_)
    exact I11_init_259 j_f0 0 h _ H
  · replace H := if_ne hc H
    refine ev_aload_n (M := T11_init) (pc := 237) 0 dX11_init_237 (k := ?_)
    refine ev_getR (M := T11_init) (pc := 238) (t := 39) (x := Option.map (Prod.mk 39) (h.2.2 11 0 3)) fl_X11_17 dX11_init_238  (K := ?_)
    refine ev_iload_n (M := T11_init) (pc := 241) 1 dX11_init_241 (k := ?_)
    refine ev_mono (mc := 1 + (3 + (4 * n + 100))) (ms := j_N 4 + (26 + (46 * n + 1600))) (by omega) (by show 20 + _ ≤ _; omega) ?_
    obtain ⟨hn, H1⟩ := g_e H
    clear H
    obtain ⟨h5, eh5, H2⟩ := lt_e H1
    clear H1
    refine ev_new (M := T11_init) (pc := 242) (k := 4) (mc := 3 + (4 * n + 100)) (ms := 26 + (46 * n + 1600)) l3 (j_wn0 0 (by decide) hn) eh5 ck_X11_15 it_4 in_4 dX11_init_242 (K := ?_)
    refine ev_dup (M := T11_init) (pc := 245) dX11_init_245 (k := ?_)
    refine ev_iload_n (M := T11_init) (pc := 246) 1 dX11_init_246 (k := ?_)
    refine ev_mono (mc := 3 + (0 + (4 * n + 100))) (ms := 26 + (0 + (46 * n + 1600))) (by omega) (by omega) ?_
    obtain ⟨h6, hq, H3⟩ := bd_e H2
    clear H2
    refine ev_callI (M := T11_init) (pc := 247) (mc := 0 + (4 * n + 100)) (ms := 0 + (46 * n + 1600)) (st := [.inr (.inr (some (4, l3))), .inl (l3), .inr (.inr (Option.map (Prod.mk 39) (h.2.2 11 0 3)))]) (I4_init hq) md_X4_init im_X4_init rfl ml_X11_75 dX11_init_247 _ (by decide) (K := ?_)
    obtain ⟨a7, ea7, H4⟩ := bd_e H3
    clear H3
    rw [ea7]
    obtain ⟨⟨hi0, hi1⟩, H5⟩ := g_e H4
    clear H4
    obtain ⟨h8, eh8, H6⟩ := lt_e H5
    clear H5
    refine ev_aastore (M := T11_init) (pc := 250) (k := 39) j_ok0 4 (some l3) hi0 hi1 eh8 dX11_init_250 (hc := ac_39) (K := ?_)
    refine ev_iinc (M := T11_init) (pc := 251) 1 [(3, .inl (w32 (l3 + 1))), (0, .inr (.inr (some (11, 0))))] dX11_init_251 (k := ?_)
    refine ev_goto (M := T11_init) (pc := 254) 231 dX11_init_254 (k := ?_)
    refine ev_mono (mc := 4 * n + 100) (ms := 46 * n + 1600) (by omega) (by omega) ?_
    refine ev_lv [1, 0] [(0, .inr (.inr (some (11, 0)))), (3, .inl (w32 (l3 + 1)))] (k := ?_)
    exact hk231 (w32 (l3 + 1)) h8 _ H6
theorem I11_init_231 (n : Nat) : ∀ (l3 : Int) (h : JM) (res : JM), F11_init_231 n l3 h = some res → Ev j_W0 4 (4 * n + 100) (46 * n + 1600) T11_init 231 [(0, .inr (.inr (some (11, 0)))), (3, .inl (l3))] [] h none res := by
  induction n with
  | zero =>
    intro l3 h res H
    cases H
  | succ n ih =>
    intro l3 h res H
    refine ev_mono (mc := 4 + (4 * n + 100)) (ms := 46 + (46 * n + 1600)) (by omega) (by omega) ?_
    exact I11_init_231b n (F11_init_231 n) ih l3 h res H
set_option maxRecDepth 100000 in
set_option maxHeartbeats 4000000 in
theorem I11_init_165b (n : Nat) (k165 : Int → JM → Option JM) (hk165 : ∀ (l3 : Int) (h : JM) (res : JM), k165 l3 h = some res → Ev j_W0 4 (0 * n + 500) (0 * n + 6200) T11_init 165 [(0, .inr (.inr (some (11, 0)))), (3, .inl (l3))] [] h none res) (l3 : Int) (h : JM) (res : JM) (H : F11_init_165b k165 l3 h = some res) : Ev j_W0 4 (0 + (0 * n + 500)) (0 + (0 * n + 6200)) T11_init 165 [(0, .inr (.inr (some (11, 0)))), (3, .inl (l3))] [] h none res := by
  unfold F11_init_165b at H
  refine ev_iload_n (M := T11_init) (pc := 165) 1 dX11_init_165 (k := ?_)
  refine ev_aload_n (M := T11_init) (pc := 166) 0 dX11_init_166 (k := ?_)
  refine ev_getI (M := T11_init) (pc := 167) (x := h.1 11 0 0) fl_X11_55 dX11_init_167 (K := ?_)
  refine ev_icmpge (M := T11_init) (pc := 170) 229 dX11_init_170 (kt := fun hc => ?_) (kf := fun hc => ?_)
  · replace H := if_pe hc H
    refine ev_iconst (M := T11_init) (pc := 229) dX11_init_229 (k := ?_)
    refine ev_istore_n (M := T11_init) (pc := 230) [(3, .inl (0)), (0, .inr (.inr (some (11, 0))))] dX11_init_230 (k := ?_)
    have hf0 : j_f0 = 100 := rfl
    refine ev_mono (mc := 4 * j_f0 + 100) (ms := 46 * j_f0 + 1600) (by omega) (by omega) ?_
    refine ev_lv [1, 0] [(0, .inr (.inr (some (11, 0)))), (3, .inl (0))] (k := ?_)
    exact I11_init_231 j_f0 0 h _ H
  · replace H := if_ne hc H
    refine ev_aload_n (M := T11_init) (pc := 173) 0 dX11_init_173 (k := ?_)
    refine ev_getR (M := T11_init) (pc := 174) (t := 38) (x := Option.map (Prod.mk 38) (h.2.2 11 0 2)) fl_X11_11 dX11_init_174  (K := ?_)
    refine ev_iconst (M := T11_init) (pc := 177) dX11_init_177 (k := ?_)
    obtain ⟨a9, ea9, H1⟩ := bd_e H
    clear H
    rw [ea9]
    obtain ⟨⟨hi0, hi1⟩, H2⟩ := g_e H1
    clear H1
    refine ev_aaload (M := T11_init) (pc := 178) (k := 38) 1 (x := Option.map (Prod.mk 1) (h.2.2 38 a9 0)) hi0 hi1 dX11_init_178 (hc := ac_38) (K := ?_)
    obtain ⟨a10, ea10, H3⟩ := bd_e H2
    clear H2
    rw [ea10]
    refine ev_getR (M := T11_init) (pc := 179) (t := 20) (x := Option.map (Prod.mk 20) (h.2.2 1 a10 1)) fl_X11_65 dX11_init_179  (K := ?_)
    refine ev_iload_n (M := T11_init) (pc := 182) 1 dX11_init_182 (k := ?_)
    obtain ⟨a11, ea11, H4⟩ := bd_e H3
    clear H3
    rw [ea11]
    obtain ⟨⟨hi0, hi1⟩, H5⟩ := g_e H4
    clear H4
    refine ev_aaload (M := T11_init) (pc := 183) (k := 20) 8 (x := Option.map (Prod.mk 8) (h.2.2 20 a11 l3)) hi0 hi1 dX11_init_183 (hc := ac_20) (K := ?_)
    refine ev_aload_n (M := T11_init) (pc := 184) 0 dX11_init_184 (k := ?_)
    refine ev_getR (M := T11_init) (pc := 185) (t := 38) (x := Option.map (Prod.mk 38) (h.2.2 11 0 2)) fl_X11_11 dX11_init_185  (K := ?_)
    refine ev_iconst (M := T11_init) (pc := 188) dX11_init_188 (k := ?_)
    obtain ⟨a12, ea12, H6⟩ := bd_e H5
    clear H5
    rw [ea12]
    obtain ⟨⟨hi0, hi1⟩, H7⟩ := g_e H6
    clear H6
    refine ev_aaload (M := T11_init) (pc := 189) (k := 38) 1 (x := Option.map (Prod.mk 1) (h.2.2 38 a12 1)) hi0 hi1 dX11_init_189 (hc := ac_38) (K := ?_)
    obtain ⟨a13, ea13, H8⟩ := bd_e H7
    clear H7
    rw [ea13]
    refine ev_getR (M := T11_init) (pc := 190) (t := 20) (x := Option.map (Prod.mk 20) (h.2.2 1 a13 1)) fl_X11_65 dX11_init_190  (K := ?_)
    refine ev_iload_n (M := T11_init) (pc := 193) 1 dX11_init_193 (k := ?_)
    obtain ⟨a14, ea14, H9⟩ := bd_e H8
    clear H8
    rw [ea14]
    obtain ⟨⟨hi0, hi1⟩, H10⟩ := g_e H9
    clear H9
    refine ev_aaload (M := T11_init) (pc := 194) (k := 20) 8 (x := Option.map (Prod.mk 8) (h.2.2 20 a14 l3)) hi0 hi1 dX11_init_194 (hc := ac_20) (K := ?_)
    obtain ⟨a15, ea15, H11⟩ := bd_e H10
    clear H10
    rw [ea15]
    obtain ⟨h16, eh16, H12⟩ := lt_e H11
    clear H11
    refine ev_putR (M := T11_init) (pc := 195) (t := 8) j_ok0 (h.2.2 20 a14 l3) fl_X11_69 eh16 (hdg := dX11_init_195) (K := ?_)
    refine ev_aload_n (M := T11_init) (pc := 198) 0 dX11_init_198 (k := ?_)
    refine ev_getR (M := T11_init) (pc := 199) (t := 38) (x := Option.map (Prod.mk 38) (h16.2.2 11 0 2)) fl_X11_11 dX11_init_199  (K := ?_)
    refine ev_iconst (M := T11_init) (pc := 202) dX11_init_202 (k := ?_)
    obtain ⟨a17, ea17, H13⟩ := bd_e H12
    clear H12
    rw [ea17]
    obtain ⟨⟨hi0, hi1⟩, H14⟩ := g_e H13
    clear H13
    refine ev_aaload (M := T11_init) (pc := 203) (k := 38) 1 (x := Option.map (Prod.mk 1) (h16.2.2 38 a17 1)) hi0 hi1 dX11_init_203 (hc := ac_38) (K := ?_)
    obtain ⟨a18, ea18, H15⟩ := bd_e H14
    clear H14
    rw [ea18]
    refine ev_getR (M := T11_init) (pc := 204) (t := 20) (x := Option.map (Prod.mk 20) (h16.2.2 1 a18 1)) fl_X11_65 dX11_init_204  (K := ?_)
    refine ev_iload_n (M := T11_init) (pc := 207) 1 dX11_init_207 (k := ?_)
    obtain ⟨a19, ea19, H16⟩ := bd_e H15
    clear H15
    rw [ea19]
    obtain ⟨⟨hi0, hi1⟩, H17⟩ := g_e H16
    clear H16
    refine ev_aaload (M := T11_init) (pc := 208) (k := 20) 8 (x := Option.map (Prod.mk 8) (h16.2.2 20 a19 l3)) hi0 hi1 dX11_init_208 (hc := ac_20) (K := ?_)
    refine ev_aload_n (M := T11_init) (pc := 209) 0 dX11_init_209 (k := ?_)
    refine ev_getR (M := T11_init) (pc := 210) (t := 38) (x := Option.map (Prod.mk 38) (h16.2.2 11 0 2)) fl_X11_11 dX11_init_210  (K := ?_)
    refine ev_iconst (M := T11_init) (pc := 213) dX11_init_213 (k := ?_)
    obtain ⟨a20, ea20, H18⟩ := bd_e H17
    clear H17
    rw [ea20]
    obtain ⟨⟨hi0, hi1⟩, H19⟩ := g_e H18
    clear H18
    refine ev_aaload (M := T11_init) (pc := 214) (k := 38) 1 (x := Option.map (Prod.mk 1) (h16.2.2 38 a20 0)) hi0 hi1 dX11_init_214 (hc := ac_38) (K := ?_)
    obtain ⟨a21, ea21, H20⟩ := bd_e H19
    clear H19
    rw [ea21]
    refine ev_getR (M := T11_init) (pc := 215) (t := 20) (x := Option.map (Prod.mk 20) (h16.2.2 1 a21 1)) fl_X11_65 dX11_init_215  (K := ?_)
    refine ev_iload_n (M := T11_init) (pc := 218) 1 dX11_init_218 (k := ?_)
    obtain ⟨a22, ea22, H21⟩ := bd_e H20
    clear H20
    rw [ea22]
    obtain ⟨⟨hi0, hi1⟩, H22⟩ := g_e H21
    clear H21
    refine ev_aaload (M := T11_init) (pc := 219) (k := 20) 8 (x := Option.map (Prod.mk 8) (h16.2.2 20 a22 l3)) hi0 hi1 dX11_init_219 (hc := ac_20) (K := ?_)
    obtain ⟨a23, ea23, H23⟩ := bd_e H22
    clear H22
    rw [ea23]
    obtain ⟨h24, eh24, H24⟩ := lt_e H23
    clear H23
    refine ev_putR (M := T11_init) (pc := 220) (t := 8) j_ok0 (h16.2.2 20 a22 l3) fl_X11_69 eh24 (hdg := dX11_init_220) (K := ?_)
    refine ev_iinc (M := T11_init) (pc := 223) 1 [(3, .inl (w32 (l3 + 1))), (0, .inr (.inr (some (11, 0))))] dX11_init_223 (k := ?_)
    refine ev_goto (M := T11_init) (pc := 226) 165 dX11_init_226 (k := ?_)
    refine ev_mono (mc := 0 * n + 500) (ms := 0 * n + 6200) (by omega) (by omega) ?_
    refine ev_lv [1, 0] [(0, .inr (.inr (some (11, 0)))), (3, .inl (w32 (l3 + 1)))] (k := ?_)
    exact hk165 (w32 (l3 + 1)) h24 _ H24
theorem I11_init_165 (n : Nat) : ∀ (l3 : Int) (h : JM) (res : JM), F11_init_165 n l3 h = some res → Ev j_W0 4 (0 * n + 500) (0 * n + 6200) T11_init 165 [(0, .inr (.inr (some (11, 0)))), (3, .inl (l3))] [] h none res := by
  induction n with
  | zero =>
    intro l3 h res H
    cases H
  | succ n ih =>
    intro l3 h res H
    refine ev_mono (mc := 0 + (0 * n + 500)) (ms := 0 + (0 * n + 6200)) (by omega) (by omega) ?_
    exact I11_init_165b n (F11_init_165 n) ih l3 h res H
set_option maxRecDepth 100000 in
set_option maxHeartbeats 4000000 in
theorem I11_init_134b (n : Nat) (k134 : Int → JM → Option JM) (hk134 : ∀ (l3 : Int) (h : JM) (res : JM), k134 l3 h = some res → Ev j_W0 4 (510 * n + 500) (3616 * n + 6200) T11_init 134 [(0, .inr (.inr (some (11, 0)))), (3, .inl (l3))] [] h none res) (l3 : Int) (h : JM) (res : JM) (H : F11_init_134b k134 l3 h = some res) : Ev j_W0 4 (510 + (510 * n + 500)) (3616 + (3616 * n + 6200)) T11_init 134 [(0, .inr (.inr (some (11, 0)))), (3, .inl (l3))] [] h none res := by
  unfold F11_init_134b at H
  refine ev_iload_n (M := T11_init) (pc := 134) 1 dX11_init_134 (k := ?_)
  refine ev_iconst (M := T11_init) (pc := 135) dX11_init_135 (k := ?_)
  refine ev_icmpge (M := T11_init) (pc := 136) 163 dX11_init_136 (kt := fun hc => ?_) (kf := fun hc => ?_)
  · replace H := if_pe hc H
    refine ev_iconst (M := T11_init) (pc := 163) dX11_init_163 (k := ?_)
    refine ev_istore_n (M := T11_init) (pc := 164) [(3, .inl (0)), (0, .inr (.inr (some (11, 0))))] dX11_init_164 (k := ?_)
    have hf0 : j_f0 = 100 := rfl
    refine ev_mono (mc := 0 * j_f0 + 500) (ms := 0 * j_f0 + 6200) (by omega) (by omega) ?_
    refine ev_lv [1, 0] [(0, .inr (.inr (some (11, 0)))), (3, .inl (0))] (k := ?_)
    exact I11_init_165 j_f0 0 h _ H
  · replace H := if_ne hc H
    refine ev_aload_n (M := T11_init) (pc := 139) 0 dX11_init_139 (k := ?_)
    refine ev_getR (M := T11_init) (pc := 140) (t := 38) (x := Option.map (Prod.mk 38) (h.2.2 11 0 2)) fl_X11_11 dX11_init_140  (K := ?_)
    refine ev_iload_n (M := T11_init) (pc := 143) 1 dX11_init_143 (k := ?_)
    refine ev_mono (mc := 1 + (509 + (510 * n + 500))) (ms := j_N 1 + (3608 + (3616 * n + 6200))) (by omega) (by show 8 + _ ≤ _; omega) ?_
    obtain ⟨hn, H1⟩ := g_e H
    clear H
    obtain ⟨h25, eh25, H2⟩ := lt_e H1
    clear H1
    refine ev_new (M := T11_init) (pc := 144) (k := 1) (mc := 509 + (510 * n + 500)) (ms := 3608 + (3616 * n + 6200)) l3 (j_wn0 0 (by decide) hn) eh25 ck_X11_9 it_1 in_1 dX11_init_144 (K := ?_)
    refine ev_dup (M := T11_init) (pc := 147) dX11_init_147 (k := ?_)
    refine ev_iload_n (M := T11_init) (pc := 148) 1 dX11_init_148 (k := ?_)
    refine ev_aload_n (M := T11_init) (pc := 149) 0 dX11_init_149 (k := ?_)
    refine ev_getI (M := T11_init) (pc := 150) (x := h25.1 11 0 0) fl_X11_55 dX11_init_150 (K := ?_)
    refine ev_mono (mc := 509 + (0 + (510 * n + 500))) (ms := 3608 + (0 + (3616 * n + 6200))) (by omega) (by omega) ?_
    obtain ⟨h26, hq, H3⟩ := bd_e H2
    clear H2
    refine ev_callI (M := T11_init) (pc := 153) (mc := 0 + (510 * n + 500)) (ms := 0 + (3616 * n + 6200)) (st := [.inr (.inr (some (1, l3))), .inl (l3), .inr (.inr (Option.map (Prod.mk 38) (h.2.2 11 0 2)))]) (I1_init hq) md_X1_init im_X1_init rfl ml_X11_62 dX11_init_153 _ (by decide) (K := ?_)
    obtain ⟨a27, ea27, H4⟩ := bd_e H3
    clear H3
    rw [ea27]
    obtain ⟨⟨hi0, hi1⟩, H5⟩ := g_e H4
    clear H4
    obtain ⟨h28, eh28, H6⟩ := lt_e H5
    clear H5
    refine ev_aastore (M := T11_init) (pc := 156) (k := 38) j_ok0 1 (some l3) hi0 hi1 eh28 dX11_init_156 (hc := ac_38) (K := ?_)
    refine ev_iinc (M := T11_init) (pc := 157) 1 [(3, .inl (w32 (l3 + 1))), (0, .inr (.inr (some (11, 0))))] dX11_init_157 (k := ?_)
    refine ev_goto (M := T11_init) (pc := 160) 134 dX11_init_160 (k := ?_)
    refine ev_mono (mc := 510 * n + 500) (ms := 3616 * n + 6200) (by omega) (by omega) ?_
    refine ev_lv [1, 0] [(0, .inr (.inr (some (11, 0)))), (3, .inl (w32 (l3 + 1)))] (k := ?_)
    exact hk134 (w32 (l3 + 1)) h28 _ H6
theorem I11_init_134 (n : Nat) : ∀ (l3 : Int) (h : JM) (res : JM), F11_init_134 n l3 h = some res → Ev j_W0 4 (510 * n + 500) (3616 * n + 6200) T11_init 134 [(0, .inr (.inr (some (11, 0)))), (3, .inl (l3))] [] h none res := by
  induction n with
  | zero =>
    intro l3 h res H
    cases H
  | succ n ih =>
    intro l3 h res H
    refine ev_mono (mc := 510 + (510 * n + 500)) (ms := 3616 + (3616 * n + 6200)) (by omega) (by omega) ?_
    exact I11_init_134b n (F11_init_134 n) ih l3 h res H
set_option maxRecDepth 100000 in
set_option maxHeartbeats 4000000 in
theorem I11_init_129 (s0 : Option Int) (s1 : Int) (h : JM) (res : JM) (H : F11_init_129 s0 s1 h = some res) : Ev j_W0 4 (51500) (367800) T11_init 129 [(0, .inr (.inr (some (11, 0))))] [.inl (s1), .inr (.inr (Option.map (Prod.mk 11) (s0)))] h none res := by
  unfold F11_init_129 at H
  obtain ⟨a29, ea29, H1⟩ := bd_e H
  clear H
  rw [ea29]
  obtain ⟨h30, eh30, H2⟩ := lt_e H1
  clear H1
  refine ev_putIF (M := T11_init) (pc := 129) j_ok0 fl_X11_59 eh30 dX11_init_129 (K := ?_)
  refine ev_iconst (M := T11_init) (pc := 132) dX11_init_132 (k := ?_)
  refine ev_istore_n (M := T11_init) (pc := 133) [(3, .inl (0)), (0, .inr (.inr (some (11, 0))))] dX11_init_133 (k := ?_)
  have hf0 : j_f0 = 100 := rfl
  refine ev_mono (mc := 510 * j_f0 + 500) (ms := 3616 * j_f0 + 6200) (by omega) (by omega) ?_
  refine ev_lv [1, 0] [(0, .inr (.inr (some (11, 0)))), (3, .inl (0))] (k := ?_)
  exact I11_init_134 j_f0 0 h30 _ H2
set_option maxRecDepth 100000 in
set_option maxHeartbeats 4000000 in
theorem I11_init_101 (l2 : Int) (s0 : Option Int) (s1 : Int) (h : JM) (res : JM) (H : F11_init_101 l2 s0 s1 h = some res) : Ev j_W0 4 (51500) (367800) T11_init 101 [(0, .inr (.inr (some (11, 0)))), (2, .inl (l2))] [.inl (s1), .inr (.inr (Option.map (Prod.mk 11) (s0)))] h none res := by
  unfold F11_init_101 at H
  obtain ⟨a31, ea31, H1⟩ := bd_e H
  clear H
  rw [ea31]
  obtain ⟨h32, eh32, H2⟩ := lt_e H1
  clear H1
  refine ev_putIF (M := T11_init) (pc := 101) j_ok0 fl_X11_55 eh32 dX11_init_101 (K := ?_)
  refine ev_aload_n (M := T11_init) (pc := 104) 0 dX11_init_104 (k := ?_)
  refine ev_iload_n (M := T11_init) (pc := 105) 1 dX11_init_105 (k := ?_)
  refine ev_ifge (M := T11_init) (pc := 106) 113 dX11_init_106 (kt := fun hc => ?_) (kf := fun hc => ?_)
  · replace H2 := if_pe hc H2
    refine ev_iload_n (M := T11_init) (pc := 113) 1 dX11_init_113 (k := ?_)
    refine ev_aload_n (M := T11_init) (pc := 114) 0 dX11_init_114 (k := ?_)
    refine ev_getI (M := T11_init) (pc := 115) (x := h32.1 11 0 0) fl_X11_55 dX11_init_115 (K := ?_)
    refine ev_icmple (M := T11_init) (pc := 118) 128 dX11_init_118 (kt := fun hc => ?_) (kf := fun hc => ?_)
    · replace H2 := if_pe hc H2
      refine ev_iload_n (M := T11_init) (pc := 128) 1 dX11_init_128 (k := ?_)
      refine ev_mono (mc := 51500) (ms := 367800) (by omega) (by omega) ?_
      refine ev_lv [0] [(0, .inr (.inr (some (11, 0))))] (k := ?_)
      exact I11_init_129 (some 0) l2 h32 _ H2
    · replace H2 := if_ne hc H2
      refine ev_aload_n (M := T11_init) (pc := 121) 0 dX11_init_121 (k := ?_)
      refine ev_getI (M := T11_init) (pc := 122) (x := h32.1 11 0 0) fl_X11_55 dX11_init_122 (K := ?_)
      refine ev_goto (M := T11_init) (pc := 125) 129 dX11_init_125 (k := ?_)
      refine ev_mono (mc := 51500) (ms := 367800) (by omega) (by omega) ?_
      refine ev_lv [0] [(0, .inr (.inr (some (11, 0))))] (k := ?_)
      exact I11_init_129 (some 0) (h32.1 11 0 0) h32 _ H2
  · replace H2 := if_ne hc H2
    refine ev_iconst (M := T11_init) (pc := 109) dX11_init_109 (k := ?_)
    refine ev_goto (M := T11_init) (pc := 110) 129 dX11_init_110 (k := ?_)
    refine ev_mono (mc := 51500) (ms := 367800) (by omega) (by omega) ?_
    refine ev_lv [0] [(0, .inr (.inr (some (11, 0))))] (k := ?_)
    exact I11_init_129 (some 0) 0 h32 _ H2
set_option maxRecDepth 100000 in
set_option maxHeartbeats 4000000 in
theorem I11_init {l1 : Int} {l2 : Int} {h : JM} {res : JM} (H : F11_init l1 l2 h = some res) : Cn j_W0 4 51515 371135 yX11_init cX11_init 4 none [.inr (.inr (some (11, 0))), .inl (l1), .inl (l2)] h none res := by
  refine Cn.by (own := RX11) (b := true) [(0, .inr (.inr (some (11, 0)))), (1, .inl (l1)), (2, .inl (l2))] rfl (fun _ => rfl) (by decide +kernel) (K := ?_)
  unfold F11_init at H
  refine ev_aload_n (M := T11_init) (pc := 0) 0 dX11_init_0 (k := ?_)
  refine ev_objInit (M := T11_init) (pc := 1) (n0 := _) ml_X11_3 j_oi j_oc dX11_init_1 (by decide) (K := ?_)
  refine ev_aload_n (M := T11_init) (pc := 4) 0 dX11_init_4 (k := ?_)
  refine ev_iconst (M := T11_init) (pc := 5) dX11_init_5 (k := ?_)
  obtain ⟨hn, H1⟩ := g_e H
  clear H
  refine ev_mono (mc := 1 + (51514)) (ms := (2 : Int).toNat + (371133)) (by omega) (by show 2 + _ ≤ _; omega) ?_
  obtain ⟨h33, eh33, H2⟩ := lt_e H1
  clear H1
  refine ev_anew (M := T11_init) (pc := 6) (k := 38) (t := 1) (mc := 51514) (ms := 371133) (len := 2) 0 (j_wn0 _ (by decide) hn) eh33 (by decide) (by decide) ck_X11_9 ao_1 dX11_init_6 (K := ?_)
  obtain ⟨h34, eh34, H3⟩ := lt_e H2
  clear H2
  refine ev_putRF (M := T11_init) (pc := 9) (t := 38) j_ok0 (some 0) fl_X11_11 eh34 (hdg := dX11_init_9) (K := ?_)
  refine ev_aload_n (M := T11_init) (pc := 12) 0 dX11_init_12 (k := ?_)
  refine ev_bipush (M := T11_init) (pc := 13) dX11_init_13 (k := ?_)
  obtain ⟨hn, H4⟩ := g_e H3
  clear H3
  refine ev_mono (mc := 1 + (51513)) (ms := (16 : Int).toNat + (371117)) (by omega) (by show 16 + _ ≤ _; omega) ?_
  obtain ⟨h35, eh35, H5⟩ := lt_e H4
  clear H4
  refine ev_anew (M := T11_init) (pc := 15) (k := 39) (t := 4) (mc := 51513) (ms := 371117) (len := 16) 0 (j_wn0 _ (by decide) hn) eh35 (by decide) (by decide) ck_X11_15 ao_4 dX11_init_15 (K := ?_)
  obtain ⟨h36, eh36, H6⟩ := lt_e H5
  clear H5
  refine ev_putRF (M := T11_init) (pc := 18) (t := 39) j_ok0 (some 0) fl_X11_17 eh36 (hdg := dX11_init_18) (K := ?_)
  refine ev_aload_n (M := T11_init) (pc := 21) 0 dX11_init_21 (k := ?_)
  refine ev_bipush (M := T11_init) (pc := 22) dX11_init_22 (k := ?_)
  obtain ⟨hn, H7⟩ := g_e H6
  clear H6
  refine ev_mono (mc := 1 + (51512)) (ms := (72 : Int).toNat + (371045)) (by omega) (by show 72 + _ ≤ _; omega) ?_
  obtain ⟨h37, eh37, H8⟩ := lt_e H7
  clear H7
  refine ev_anew (M := T11_init) (pc := 24) (k := 40) (t := 0) (mc := 51512) (ms := 371045) (len := 72) 0 (j_wn0 _ (by decide) hn) eh37 (by decide) (by decide) ck_X11_21 ao_0 dX11_init_24 (K := ?_)
  obtain ⟨h38, eh38, H9⟩ := lt_e H8
  clear H8
  refine ev_putRF (M := T11_init) (pc := 27) (t := 40) j_ok0 (some 0) fl_X11_23 eh38 (hdg := dX11_init_27) (K := ?_)
  refine ev_aload_n (M := T11_init) (pc := 30) 0 dX11_init_30 (k := ?_)
  refine ev_mono (mc := 1 + (51511)) (ms := j_N 3 + (371042)) (by omega) (by show 3 + _ ≤ _; omega) ?_
  obtain ⟨hn, H10⟩ := g_e H9
  clear H9
  obtain ⟨h39, eh39, H11⟩ := lt_e H10
  clear H10
  refine ev_new (M := T11_init) (pc := 31) (k := 3) (mc := 51511) (ms := 371042) 0 (j_wn0 0 (by decide) hn) eh39 ck_X11_27 it_3 in_3 dX11_init_31 (K := ?_)
  refine ev_dup (M := T11_init) (pc := 34) dX11_init_34 (k := ?_)
  refine ev_mono (mc := 2 + (51509)) (ms := 1516 + (369526)) (by omega) (by omega) ?_
  obtain ⟨h40, hq, H12⟩ := bd_e H11
  clear H11
  refine ev_callI (M := T11_init) (pc := 35) (mc := 51509) (ms := 369526) (st := [.inr (.inr (some (3, 0))), .inr (.inr (some (11, 0)))]) (I3_init hq) md_X3_init im_X3_init rfl ml_X11_29 dX11_init_35 _ (by decide) (K := ?_)
  obtain ⟨h41, eh41, H13⟩ := lt_e H12
  clear H12
  refine ev_putRF (M := T11_init) (pc := 38) (t := 3) j_ok0 (some 0) fl_X11_30 eh41 (hdg := dX11_init_38) (K := ?_)
  refine ev_aload_n (M := T11_init) (pc := 41) 0 dX11_init_41 (k := ?_)
  refine ev_mono (mc := 1 + (51508)) (ms := j_N 7 + (369522)) (by omega) (by show 4 + _ ≤ _; omega) ?_
  obtain ⟨hn, H14⟩ := g_e H13
  clear H13
  obtain ⟨h42, eh42, H15⟩ := lt_e H14
  clear H14
  refine ev_new (M := T11_init) (pc := 42) (k := 7) (mc := 51508) (ms := 369522) 0 (j_wn0 0 (by decide) hn) eh42 ck_X11_34 it_7 in_7 dX11_init_42 (K := ?_)
  refine ev_dup (M := T11_init) (pc := 45) dX11_init_45 (k := ?_)
  refine ev_mono (mc := 2 + (51506)) (ms := 600 + (368922)) (by omega) (by omega) ?_
  obtain ⟨h43, hq, H16⟩ := bd_e H15
  clear H15
  refine ev_callIN (M := T11_init) (pc := 46) (mc := 51506) (ms := 368922) (st := [.inr (.inr (some (7, 0))), .inr (.inr (some (11, 0)))]) (I7_init hq) md_X7_init im_X7_init rfl ml_X11_36 dX11_init_46 _ (by decide) (K := ?_)
  obtain ⟨h44, eh44, H17⟩ := lt_e H16
  clear H16
  refine ev_putRF (M := T11_init) (pc := 49) (t := 7) j_ok0 (some 0) fl_X11_37 eh44 (hdg := dX11_init_49) (K := ?_)
  refine ev_aload_n (M := T11_init) (pc := 52) 0 dX11_init_52 (k := ?_)
  refine ev_mono (mc := 1 + (51505)) (ms := j_N 7 + (368918)) (by omega) (by show 4 + _ ≤ _; omega) ?_
  obtain ⟨hn, H18⟩ := g_e H17
  clear H17
  obtain ⟨h45, eh45, H19⟩ := lt_e H18
  clear H18
  refine ev_new (M := T11_init) (pc := 53) (k := 7) (mc := 51505) (ms := 368918) 1 (j_wn0 0 (by decide) hn) eh45 ck_X11_34 it_7 in_7 dX11_init_53 (K := ?_)
  refine ev_dup (M := T11_init) (pc := 56) dX11_init_56 (k := ?_)
  refine ev_mono (mc := 2 + (51503)) (ms := 600 + (368318)) (by omega) (by omega) ?_
  obtain ⟨h46, hq, H20⟩ := bd_e H19
  clear H19
  refine ev_callIN (M := T11_init) (pc := 57) (mc := 51503) (ms := 368318) (st := [.inr (.inr (some (7, 1))), .inr (.inr (some (11, 0)))]) (I7_init hq) md_X7_init im_X7_init rfl ml_X11_36 dX11_init_57 _ (by decide) (K := ?_)
  obtain ⟨h47, eh47, H21⟩ := lt_e H20
  clear H20
  refine ev_putRF (M := T11_init) (pc := 60) (t := 7) j_ok0 (some 1) fl_X11_41 eh47 (hdg := dX11_init_60) (K := ?_)
  refine ev_aload_n (M := T11_init) (pc := 63) 0 dX11_init_63 (k := ?_)
  refine ev_mono (mc := 1 + (51502)) (ms := j_N 10 + (368312)) (by omega) (by show 6 + _ ≤ _; omega) ?_
  obtain ⟨hn, H22⟩ := g_e H21
  clear H21
  obtain ⟨h48, eh48, H23⟩ := lt_e H22
  clear H22
  refine ev_new (M := T11_init) (pc := 64) (k := 10) (mc := 51502) (ms := 368312) 0 (j_wn0 0 (by decide) hn) eh48 ck_X11_44 it_10 in_10 dX11_init_64 (K := ?_)
  refine ev_dup (M := T11_init) (pc := 67) dX11_init_67 (k := ?_)
  refine ev_mono (mc := 2 + (51500)) (ms := 512 + (367800)) (by omega) (by omega) ?_
  obtain ⟨h49, hq, H24⟩ := bd_e H23
  clear H23
  refine ev_callIN (M := T11_init) (pc := 68) (mc := 51500) (ms := 367800) (st := [.inr (.inr (some (10, 0))), .inr (.inr (some (11, 0)))]) (I10_init hq) md_X10_init im_X10_init rfl ml_X11_46 dX11_init_68 _ (by decide) (K := ?_)
  obtain ⟨h50, eh50, H25⟩ := lt_e H24
  clear H24
  refine ev_putRF (M := T11_init) (pc := 71) (t := 10) j_ok0 (some 0) fl_X11_47 eh50 (hdg := dX11_init_71) (K := ?_)
  refine ev_aload_n (M := T11_init) (pc := 74) 0 dX11_init_74 (k := ?_)
  refine ev_lconst (M := T11_init) (pc := 75) (v := 0) dX11_init_75 (k := ?_)
  obtain ⟨h51, eh51, H26⟩ := lt_e H25
  clear H25
  refine ev_putL (M := T11_init) (pc := 76) j_ok0 fl_X11_51 eh51 dX11_init_76 (K := ?_)
  refine ev_aload_n (M := T11_init) (pc := 79) 0 dX11_init_79 (k := ?_)
  refine ev_iload_n (M := T11_init) (pc := 80) 1 dX11_init_80 (k := ?_)
  refine ev_iconst (M := T11_init) (pc := 81) dX11_init_81 (k := ?_)
  refine ev_icmpge (M := T11_init) (pc := 82) 89 dX11_init_82 (kt := fun hc => ?_) (kf := fun hc => ?_)
  · replace H26 := if_pe hc H26
    refine ev_iload_n (M := T11_init) (pc := 89) 1 dX11_init_89 (k := ?_)
    refine ev_bipush (M := T11_init) (pc := 90) dX11_init_90 (k := ?_)
    refine ev_icmple (M := T11_init) (pc := 92) 100 dX11_init_92 (kt := fun hc => ?_) (kf := fun hc => ?_)
    · replace H26 := if_pe hc H26
      refine ev_iload_n (M := T11_init) (pc := 100) 1 dX11_init_100 (k := ?_)
      refine ev_mono (mc := 51500) (ms := 367800) (by omega) (by omega) ?_
      refine ev_lv [0, 2] [(0, .inr (.inr (some (11, 0)))), (2, .inl (l2))] (k := ?_)
      exact I11_init_101 l2 (some 0) l1 h51 _ H26
    · replace H26 := if_ne hc H26
      refine ev_bipush (M := T11_init) (pc := 95) dX11_init_95 (k := ?_)
      refine ev_goto (M := T11_init) (pc := 97) 101 dX11_init_97 (k := ?_)
      refine ev_mono (mc := 51500) (ms := 367800) (by omega) (by omega) ?_
      refine ev_lv [0, 2] [(0, .inr (.inr (some (11, 0)))), (2, .inl (l2))] (k := ?_)
      exact I11_init_101 l2 (some 0) 16 h51 _ H26
  · replace H26 := if_ne hc H26
    refine ev_iconst (M := T11_init) (pc := 85) dX11_init_85 (k := ?_)
    refine ev_goto (M := T11_init) (pc := 86) 101 dX11_init_86 (k := ?_)
    refine ev_mono (mc := 51500) (ms := 367800) (by omega) (by omega) ?_
    refine ev_lv [0, 2] [(0, .inr (.inr (some (11, 0)))), (2, .inl (l2))] (k := ?_)
    exact I11_init_101 l2 (some 0) 1 h51 _ H26
-- X12_init
abbrev T12_init : JT := (RX12, cX12_init, 4, none, true)
set_option maxRecDepth 100000 in
set_option maxHeartbeats 4000000 in
theorem I12_init_806b (n : Nat) (k806 : Int → JM → Option JM) (hk806 : ∀ (l3 : Int) (h : JM) (res : JM), k806 l3 h = some res → Ev j_W0 3 (0 * n + 0) (0 * n + 0) T12_init 806 [(0, .inr (.inr (some (12, 0)))), (3, .inl (l3))] [] h none res) (l3 : Int) (h : JM) (res : JM) (H : F12_init_806b k806 l3 h = some res) : Ev j_W0 3 (0 + (0 * n + 0)) (0 + (0 * n + 0)) T12_init 806 [(0, .inr (.inr (some (12, 0)))), (3, .inl (l3))] [] h none res := by
  unfold F12_init_806b at H
  refine ev_iload_n (M := T12_init) (pc := 806) 1 dX12_init_806 (k := ?_)
  refine ev_iconst (M := T12_init) (pc := 807) dX12_init_807 (k := ?_)
  refine ev_icmpge (M := T12_init) (pc := 808) 825 dX12_init_808 (kt := fun hc => ?_) (kf := fun hc => ?_)
  · replace H := if_pe hc H
    refine ev_aload_n (M := T12_init) (pc := 825) 0 dX12_init_825 (k := ?_)
    refine ev_getR (M := T12_init) (pc := 826) (t := 165) (x := Option.map (Prod.mk 165) (h.2.2 12 0 65)) fl_X12_188 dX12_init_826  (K := ?_)
    refine ev_iconst (M := T12_init) (pc := 829) dX12_init_829 (k := ?_)
    refine ev_iconst (M := T12_init) (pc := 830) dX12_init_830 (k := ?_)
    obtain ⟨a1, ea1, H1⟩ := bd_e H
    clear H
    rw [ea1]
    obtain ⟨⟨hi0, hi1⟩, H2⟩ := g_e H1
    clear H1
    obtain ⟨h2, eh2, H3⟩ := lt_e H2
    clear H2
    refine ev_iastore (M := T12_init) (pc := 831) (k := 165) j_ok0 hi0 hi1 eh2 dX12_init_831 (hc := ac_165) (K := ?_)
    refine ev_aload_n (M := T12_init) (pc := 832) 0 dX12_init_832 (k := ?_)
    refine ev_getR (M := T12_init) (pc := 833) (t := 165) (x := Option.map (Prod.mk 165) (h2.2.2 12 0 65)) fl_X12_188 dX12_init_833  (K := ?_)
    refine ev_iconst (M := T12_init) (pc := 836) dX12_init_836 (k := ?_)
    refine ev_iconst (M := T12_init) (pc := 837) dX12_init_837 (k := ?_)
    obtain ⟨a3, ea3, H4⟩ := bd_e H3
    clear H3
    rw [ea3]
    obtain ⟨⟨hi0, hi1⟩, H5⟩ := g_e H4
    clear H4
    obtain ⟨h4, eh4, H6⟩ := lt_e H5
    clear H5
    refine ev_iastore (M := T12_init) (pc := 838) (k := 165) j_ok0 hi0 hi1 eh4 dX12_init_838 (hc := ac_165) (K := ?_)
    refine ev_aload_n (M := T12_init) (pc := 839) 0 dX12_init_839 (k := ?_)
    refine ev_getR (M := T12_init) (pc := 840) (t := 166) (x := Option.map (Prod.mk 166) (h4.2.2 12 0 66)) fl_X12_191 dX12_init_840  (K := ?_)
    refine ev_iconst (M := T12_init) (pc := 843) dX12_init_843 (k := ?_)
    refine ev_iconst (M := T12_init) (pc := 844) dX12_init_844 (k := ?_)
    obtain ⟨a5, ea5, H7⟩ := bd_e H6
    clear H6
    rw [ea5]
    obtain ⟨⟨hi0, hi1⟩, H8⟩ := g_e H7
    clear H7
    obtain ⟨h6, eh6, H9⟩ := lt_e H8
    clear H8
    refine ev_iastore (M := T12_init) (pc := 845) (k := 166) j_ok0 hi0 hi1 eh6 dX12_init_845 (hc := ac_166) (K := ?_)
    refine ev_aload_n (M := T12_init) (pc := 846) 0 dX12_init_846 (k := ?_)
    refine ev_getR (M := T12_init) (pc := 847) (t := 166) (x := Option.map (Prod.mk 166) (h6.2.2 12 0 66)) fl_X12_191 dX12_init_847  (K := ?_)
    refine ev_iconst (M := T12_init) (pc := 850) dX12_init_850 (k := ?_)
    refine ev_iconst (M := T12_init) (pc := 851) dX12_init_851 (k := ?_)
    obtain ⟨a7, ea7, H10⟩ := bd_e H9
    clear H9
    rw [ea7]
    obtain ⟨⟨hi0, hi1⟩, H11⟩ := g_e H10
    clear H10
    obtain ⟨h8, eh8, H12⟩ := lt_e H11
    clear H11
    refine ev_iastore (M := T12_init) (pc := 852) (k := 166) j_ok0 hi0 hi1 eh8 dX12_init_852 (hc := ac_166) (K := ?_)
    cases H12
    exact ev_return (M := T12_init) (pc := 853) dX12_init_853
  · replace H := if_ne hc H
    refine ev_aload_n (M := T12_init) (pc := 811) 0 dX12_init_811 (k := ?_)
    refine ev_getR (M := T12_init) (pc := 812) (t := 187) (x := Option.map (Prod.mk 187) (h.2.2 12 0 87)) fl_X12_243 dX12_init_812  (K := ?_)
    refine ev_iload_n (M := T12_init) (pc := 815) 1 dX12_init_815 (k := ?_)
    refine ev_bipush (M := T12_init) (pc := 816) dX12_init_816 (k := ?_)
    obtain ⟨a9, ea9, H1⟩ := bd_e H
    clear H
    rw [ea9]
    obtain ⟨⟨hi0, hi1⟩, H2⟩ := g_e H1
    clear H1
    obtain ⟨h10, eh10, H3⟩ := lt_e H2
    clear H2
    refine ev_iastore (M := T12_init) (pc := 818) (k := 187) j_ok0 hi0 hi1 eh10 dX12_init_818 (hc := ac_187) (K := ?_)
    refine ev_iinc (M := T12_init) (pc := 819) 1 [(3, .inl (w32 (l3 + 1))), (0, .inr (.inr (some (12, 0))))] dX12_init_819 (k := ?_)
    refine ev_goto (M := T12_init) (pc := 822) 806 dX12_init_822 (k := ?_)
    refine ev_mono (mc := 0 * n + 0) (ms := 0 * n + 0) (by omega) (by omega) ?_
    refine ev_lv [1, 0] [(0, .inr (.inr (some (12, 0)))), (3, .inl (w32 (l3 + 1)))] (k := ?_)
    exact hk806 (w32 (l3 + 1)) h10 _ H3
theorem I12_init_806 (n : Nat) : ∀ (l3 : Int) (h : JM) (res : JM), F12_init_806 n l3 h = some res → Ev j_W0 3 (0 * n + 0) (0 * n + 0) T12_init 806 [(0, .inr (.inr (some (12, 0)))), (3, .inl (l3))] [] h none res := by
  induction n with
  | zero =>
    intro l3 h res H
    cases H
  | succ n ih =>
    intro l3 h res H
    refine ev_mono (mc := 0 + (0 * n + 0)) (ms := 0 + (0 * n + 0)) (by omega) (by omega) ?_
    exact I12_init_806b n (F12_init_806 n) ih l3 h res H
set_option maxRecDepth 100000 in
set_option maxHeartbeats 4000000 in
theorem I12_init_785b (n : Nat) (k785 : Int → JM → Option JM) (hk785 : ∀ (l3 : Int) (h : JM) (res : JM), k785 l3 h = some res → Ev j_W0 3 (0 * n + 0) (0 * n + 0) T12_init 785 [(0, .inr (.inr (some (12, 0)))), (3, .inl (l3))] [] h none res) (l3 : Int) (h : JM) (res : JM) (H : F12_init_785b k785 l3 h = some res) : Ev j_W0 3 (0 + (0 * n + 0)) (0 + (0 * n + 0)) T12_init 785 [(0, .inr (.inr (some (12, 0)))), (3, .inl (l3))] [] h none res := by
  unfold F12_init_785b at H
  refine ev_iload_n (M := T12_init) (pc := 785) 1 dX12_init_785 (k := ?_)
  refine ev_bipush (M := T12_init) (pc := 786) dX12_init_786 (k := ?_)
  refine ev_icmpge (M := T12_init) (pc := 788) 804 dX12_init_788 (kt := fun hc => ?_) (kf := fun hc => ?_)
  · replace H := if_pe hc H
    refine ev_iconst (M := T12_init) (pc := 804) dX12_init_804 (k := ?_)
    refine ev_istore_n (M := T12_init) (pc := 805) [(3, .inl (0)), (0, .inr (.inr (some (12, 0))))] dX12_init_805 (k := ?_)
    have hf0 : j_f0 = 100 := rfl
    refine ev_mono (mc := 0 * j_f0 + 0) (ms := 0 * j_f0 + 0) (by omega) (by omega) ?_
    refine ev_lv [1, 0] [(0, .inr (.inr (some (12, 0)))), (3, .inl (0))] (k := ?_)
    exact I12_init_806 j_f0 0 h _ H
  · replace H := if_ne hc H
    refine ev_aload_n (M := T12_init) (pc := 791) 0 dX12_init_791 (k := ?_)
    refine ev_getR (M := T12_init) (pc := 792) (t := 133) (x := Option.map (Prod.mk 133) (h.2.2 12 0 33)) fl_X12_95 dX12_init_792  (K := ?_)
    refine ev_iload_n (M := T12_init) (pc := 795) 1 dX12_init_795 (k := ?_)
    refine ev_iconst (M := T12_init) (pc := 796) dX12_init_796 (k := ?_)
    obtain ⟨a11, ea11, H1⟩ := bd_e H
    clear H
    rw [ea11]
    obtain ⟨⟨hi0, hi1⟩, H2⟩ := g_e H1
    clear H1
    obtain ⟨h12, eh12, H3⟩ := lt_e H2
    clear H2
    refine ev_iastore (M := T12_init) (pc := 797) (k := 133) j_ok0 hi0 hi1 eh12 dX12_init_797 (hc := ac_133) (K := ?_)
    refine ev_iinc (M := T12_init) (pc := 798) 1 [(3, .inl (w32 (l3 + 1))), (0, .inr (.inr (some (12, 0))))] dX12_init_798 (k := ?_)
    refine ev_goto (M := T12_init) (pc := 801) 785 dX12_init_801 (k := ?_)
    refine ev_mono (mc := 0 * n + 0) (ms := 0 * n + 0) (by omega) (by omega) ?_
    refine ev_lv [1, 0] [(0, .inr (.inr (some (12, 0)))), (3, .inl (w32 (l3 + 1)))] (k := ?_)
    exact hk785 (w32 (l3 + 1)) h12 _ H3
theorem I12_init_785 (n : Nat) : ∀ (l3 : Int) (h : JM) (res : JM), F12_init_785 n l3 h = some res → Ev j_W0 3 (0 * n + 0) (0 * n + 0) T12_init 785 [(0, .inr (.inr (some (12, 0)))), (3, .inl (l3))] [] h none res := by
  induction n with
  | zero =>
    intro l3 h res H
    cases H
  | succ n ih =>
    intro l3 h res H
    refine ev_mono (mc := 0 + (0 * n + 0)) (ms := 0 + (0 * n + 0)) (by omega) (by omega) ?_
    exact I12_init_785b n (F12_init_785 n) ih l3 h res H
set_option maxRecDepth 100000 in
set_option maxHeartbeats 4000000 in
theorem I12_init_753b (n : Nat) (k753 : Int → JM → Option JM) (hk753 : ∀ (l3 : Int) (h : JM) (res : JM), k753 l3 h = some res → Ev j_W0 3 (0 * n + 0) (0 * n + 0) T12_init 753 [(0, .inr (.inr (some (12, 0)))), (3, .inl (l3))] [] h none res) (l3 : Int) (h : JM) (res : JM) (H : F12_init_753b k753 l3 h = some res) : Ev j_W0 3 (0 + (0 * n + 0)) (0 + (0 * n + 0)) T12_init 753 [(0, .inr (.inr (some (12, 0)))), (3, .inl (l3))] [] h none res := by
  unfold F12_init_753b at H
  refine ev_iload_n (M := T12_init) (pc := 753) 1 dX12_init_753 (k := ?_)
  refine ev_bipush (M := T12_init) (pc := 754) dX12_init_754 (k := ?_)
  refine ev_icmpge (M := T12_init) (pc := 756) 783 dX12_init_756 (kt := fun hc => ?_) (kf := fun hc => ?_)
  · replace H := if_pe hc H
    refine ev_iconst (M := T12_init) (pc := 783) dX12_init_783 (k := ?_)
    refine ev_istore_n (M := T12_init) (pc := 784) [(3, .inl (0)), (0, .inr (.inr (some (12, 0))))] dX12_init_784 (k := ?_)
    have hf0 : j_f0 = 100 := rfl
    refine ev_mono (mc := 0 * j_f0 + 0) (ms := 0 * j_f0 + 0) (by omega) (by omega) ?_
    refine ev_lv [1, 0] [(0, .inr (.inr (some (12, 0)))), (3, .inl (0))] (k := ?_)
    exact I12_init_785 j_f0 0 h _ H
  · replace H := if_ne hc H
    refine ev_aload_n (M := T12_init) (pc := 759) 0 dX12_init_759 (k := ?_)
    refine ev_getR (M := T12_init) (pc := 760) (t := 155) (x := Option.map (Prod.mk 155) (h.2.2 12 0 55)) fl_X12_161 dX12_init_760  (K := ?_)
    refine ev_iload_n (M := T12_init) (pc := 763) 1 dX12_init_763 (k := ?_)
    refine ev_iconst (M := T12_init) (pc := 764) dX12_init_764 (k := ?_)
    obtain ⟨a13, ea13, H1⟩ := bd_e H
    clear H
    rw [ea13]
    obtain ⟨⟨hi0, hi1⟩, H2⟩ := g_e H1
    clear H1
    obtain ⟨h14, eh14, H3⟩ := lt_e H2
    clear H2
    refine ev_iastore (M := T12_init) (pc := 765) (k := 155) j_ok0 hi0 hi1 eh14 dX12_init_765 (hc := ac_155) (K := ?_)
    refine ev_aload_n (M := T12_init) (pc := 766) 0 dX12_init_766 (k := ?_)
    refine ev_getR (M := T12_init) (pc := 767) (t := 184) (x := Option.map (Prod.mk 184) (h14.2.2 12 0 84)) fl_X12_234 dX12_init_767  (K := ?_)
    refine ev_iload_n (M := T12_init) (pc := 770) 1 dX12_init_770 (k := ?_)
    refine ev_iconst (M := T12_init) (pc := 771) dX12_init_771 (k := ?_)
    refine ev_iconst (M := T12_init) (pc := 772) dX12_init_772 (k := ?_)
    refine ev_mono (mc := 0 + (0 + (0 * n + 0))) (ms := 0 + (0 + (0 * n + 0))) (by omega) (by omega) ?_
    obtain ⟨q15, hq, H4⟩ := bd_e H3
    clear H3
    refine ev_callS (M := T12_init) (pc := 773) (mc := 0 + (0 * n + 0)) (ms := 0 + (0 * n + 0)) (st := [.inl (l3), .inr (.inr (Option.map (Prod.mk 184) (h14.2.2 12 0 84)))]) (I12_codeOf hq) md_X12_codeOf ss_X12_codeOf ml_X12_262 dX12_init_773 _ (by decide) (K := ?_)
    obtain ⟨a16, ea16, H5⟩ := bd_e H4
    clear H4
    rw [ea16]
    obtain ⟨⟨hi0, hi1⟩, H6⟩ := g_e H5
    clear H5
    obtain ⟨h17, eh17, H7⟩ := lt_e H6
    clear H6
    refine ev_iastore (M := T12_init) (pc := 776) (k := 184) j_ok0 hi0 hi1 eh17 dX12_init_776 (hc := ac_184) (K := ?_)
    refine ev_iinc (M := T12_init) (pc := 777) 1 [(3, .inl (w32 (l3 + 1))), (0, .inr (.inr (some (12, 0))))] dX12_init_777 (k := ?_)
    refine ev_goto (M := T12_init) (pc := 780) 753 dX12_init_780 (k := ?_)
    refine ev_mono (mc := 0 * n + 0) (ms := 0 * n + 0) (by omega) (by omega) ?_
    refine ev_lv [1, 0] [(0, .inr (.inr (some (12, 0)))), (3, .inl (w32 (l3 + 1)))] (k := ?_)
    exact hk753 (w32 (l3 + 1)) h17 _ H7
theorem I12_init_753 (n : Nat) : ∀ (l3 : Int) (h : JM) (res : JM), F12_init_753 n l3 h = some res → Ev j_W0 3 (0 * n + 0) (0 * n + 0) T12_init 753 [(0, .inr (.inr (some (12, 0)))), (3, .inl (l3))] [] h none res := by
  induction n with
  | zero =>
    intro l3 h res H
    cases H
  | succ n ih =>
    intro l3 h res H
    refine ev_mono (mc := 0 + (0 * n + 0)) (ms := 0 + (0 * n + 0)) (by omega) (by omega) ?_
    exact I12_init_753b n (F12_init_753 n) ih l3 h res H
set_option maxRecDepth 100000 in
set_option maxHeartbeats 4000000 in
theorem I12_init_711b (n : Nat) (k711 : Int → JM → Option JM) (hk711 : ∀ (l3 : Int) (h : JM) (res : JM), k711 l3 h = some res → Ev j_W0 3 (0 * n + 0) (0 * n + 0) T12_init 711 [(0, .inr (.inr (some (12, 0)))), (3, .inl (l3))] [] h none res) (l3 : Int) (h : JM) (res : JM) (H : F12_init_711b k711 l3 h = some res) : Ev j_W0 3 (0 + (0 * n + 0)) (0 + (0 * n + 0)) T12_init 711 [(0, .inr (.inr (some (12, 0)))), (3, .inl (l3))] [] h none res := by
  unfold F12_init_711b at H
  refine ev_iload_n (M := T12_init) (pc := 711) 1 dX12_init_711 (k := ?_)
  refine ev_bipush (M := T12_init) (pc := 712) dX12_init_712 (k := ?_)
  refine ev_icmpge (M := T12_init) (pc := 714) 751 dX12_init_714 (kt := fun hc => ?_) (kf := fun hc => ?_)
  · replace H := if_pe hc H
    refine ev_iconst (M := T12_init) (pc := 751) dX12_init_751 (k := ?_)
    refine ev_istore_n (M := T12_init) (pc := 752) [(3, .inl (0)), (0, .inr (.inr (some (12, 0))))] dX12_init_752 (k := ?_)
    have hf0 : j_f0 = 100 := rfl
    refine ev_mono (mc := 0 * j_f0 + 0) (ms := 0 * j_f0 + 0) (by omega) (by omega) ?_
    refine ev_lv [1, 0] [(0, .inr (.inr (some (12, 0)))), (3, .inl (0))] (k := ?_)
    exact I12_init_753 j_f0 0 h _ H
  · replace H := if_ne hc H
    refine ev_aload_n (M := T12_init) (pc := 717) 0 dX12_init_717 (k := ?_)
    refine ev_getR (M := T12_init) (pc := 718) (t := 119) (x := Option.map (Prod.mk 119) (h.2.2 12 0 19)) fl_X12_56 dX12_init_718  (K := ?_)
    refine ev_iload_n (M := T12_init) (pc := 721) 1 dX12_init_721 (k := ?_)
    refine ev_iconst (M := T12_init) (pc := 722) dX12_init_722 (k := ?_)
    obtain ⟨a18, ea18, H1⟩ := bd_e H
    clear H
    rw [ea18]
    obtain ⟨⟨hi0, hi1⟩, H2⟩ := g_e H1
    clear H1
    obtain ⟨h19, eh19, H3⟩ := lt_e H2
    clear H2
    refine ev_iastore (M := T12_init) (pc := 723) (k := 119) j_ok0 hi0 hi1 eh19 dX12_init_723 (hc := ac_119) (K := ?_)
    refine ev_aload_n (M := T12_init) (pc := 724) 0 dX12_init_724 (k := ?_)
    refine ev_getR (M := T12_init) (pc := 725) (t := 120) (x := Option.map (Prod.mk 120) (h19.2.2 12 0 20)) fl_X12_59 dX12_init_725  (K := ?_)
    refine ev_iload_n (M := T12_init) (pc := 728) 1 dX12_init_728 (k := ?_)
    refine ev_iconst (M := T12_init) (pc := 729) dX12_init_729 (k := ?_)
    obtain ⟨a20, ea20, H4⟩ := bd_e H3
    clear H3
    rw [ea20]
    obtain ⟨⟨hi0, hi1⟩, H5⟩ := g_e H4
    clear H4
    obtain ⟨h21, eh21, H6⟩ := lt_e H5
    clear H5
    refine ev_iastore (M := T12_init) (pc := 730) (k := 120) j_ok0 hi0 hi1 eh21 dX12_init_730 (hc := ac_120) (K := ?_)
    refine ev_aload_n (M := T12_init) (pc := 731) 0 dX12_init_731 (k := ?_)
    refine ev_getR (M := T12_init) (pc := 732) (t := 121) (x := Option.map (Prod.mk 121) (h21.2.2 12 0 21)) fl_X12_62 dX12_init_732  (K := ?_)
    refine ev_iload_n (M := T12_init) (pc := 735) 1 dX12_init_735 (k := ?_)
    refine ev_iconst (M := T12_init) (pc := 736) dX12_init_736 (k := ?_)
    obtain ⟨a22, ea22, H7⟩ := bd_e H6
    clear H6
    rw [ea22]
    obtain ⟨⟨hi0, hi1⟩, H8⟩ := g_e H7
    clear H7
    obtain ⟨h23, eh23, H9⟩ := lt_e H8
    clear H8
    refine ev_iastore (M := T12_init) (pc := 737) (k := 121) j_ok0 hi0 hi1 eh23 dX12_init_737 (hc := ac_121) (K := ?_)
    refine ev_aload_n (M := T12_init) (pc := 738) 0 dX12_init_738 (k := ?_)
    refine ev_getR (M := T12_init) (pc := 739) (t := 126) (x := Option.map (Prod.mk 126) (h23.2.2 12 0 26)) fl_X12_77 dX12_init_739  (K := ?_)
    refine ev_iload_n (M := T12_init) (pc := 742) 1 dX12_init_742 (k := ?_)
    refine ev_iconst (M := T12_init) (pc := 743) dX12_init_743 (k := ?_)
    obtain ⟨a24, ea24, H10⟩ := bd_e H9
    clear H9
    rw [ea24]
    obtain ⟨⟨hi0, hi1⟩, H11⟩ := g_e H10
    clear H10
    obtain ⟨h25, eh25, H12⟩ := lt_e H11
    clear H11
    refine ev_iastore (M := T12_init) (pc := 744) (k := 126) j_ok0 hi0 hi1 eh25 dX12_init_744 (hc := ac_126) (K := ?_)
    refine ev_iinc (M := T12_init) (pc := 745) 1 [(3, .inl (w32 (l3 + 1))), (0, .inr (.inr (some (12, 0))))] dX12_init_745 (k := ?_)
    refine ev_goto (M := T12_init) (pc := 748) 711 dX12_init_748 (k := ?_)
    refine ev_mono (mc := 0 * n + 0) (ms := 0 * n + 0) (by omega) (by omega) ?_
    refine ev_lv [1, 0] [(0, .inr (.inr (some (12, 0)))), (3, .inl (w32 (l3 + 1)))] (k := ?_)
    exact hk711 (w32 (l3 + 1)) h25 _ H12
theorem I12_init_711 (n : Nat) : ∀ (l3 : Int) (h : JM) (res : JM), F12_init_711 n l3 h = some res → Ev j_W0 3 (0 * n + 0) (0 * n + 0) T12_init 711 [(0, .inr (.inr (some (12, 0)))), (3, .inl (l3))] [] h none res := by
  induction n with
  | zero =>
    intro l3 h res H
    cases H
  | succ n ih =>
    intro l3 h res H
    refine ev_mono (mc := 0 + (0 * n + 0)) (ms := 0 + (0 * n + 0)) (by omega) (by omega) ?_
    exact I12_init_711b n (F12_init_711 n) ih l3 h res H
set_option maxRecDepth 100000 in
set_option maxHeartbeats 4000000 in
theorem I12_init_706 (s0 : Option Int) (s1 : Int) (h : JM) (res : JM) (H : F12_init_706 s0 s1 h = some res) : Ev j_W0 3 (0) (0) T12_init 706 [(0, .inr (.inr (some (12, 0))))] [.inl (s1), .inr (.inr (Option.map (Prod.mk 12) (s0)))] h none res := by
  unfold F12_init_706 at H
  obtain ⟨a26, ea26, H1⟩ := bd_e H
  clear H
  rw [ea26]
  obtain ⟨h27, eh27, H2⟩ := lt_e H1
  clear H1
  refine ev_putIF (M := T12_init) (pc := 706) j_ok0 fl_X12_259 eh27 dX12_init_706 (K := ?_)
  refine ev_iconst (M := T12_init) (pc := 709) dX12_init_709 (k := ?_)
  refine ev_istore_n (M := T12_init) (pc := 710) [(3, .inl (0)), (0, .inr (.inr (some (12, 0))))] dX12_init_710 (k := ?_)
  have hf0 : j_f0 = 100 := rfl
  refine ev_mono (mc := 0 * j_f0 + 0) (ms := 0 * j_f0 + 0) (by omega) (by omega) ?_
  refine ev_lv [1, 0] [(0, .inr (.inr (some (12, 0)))), (3, .inl (0))] (k := ?_)
  exact I12_init_711 j_f0 0 h27 _ H2
set_option maxRecDepth 100000 in
set_option maxHeartbeats 4000000 in
theorem I12_init_678 (l2 : Int) (s0 : Option Int) (s1 : Int) (h : JM) (res : JM) (H : F12_init_678 l2 s0 s1 h = some res) : Ev j_W0 3 (0) (0) T12_init 678 [(0, .inr (.inr (some (12, 0)))), (2, .inl (l2))] [.inl (s1), .inr (.inr (Option.map (Prod.mk 12) (s0)))] h none res := by
  unfold F12_init_678 at H
  obtain ⟨a28, ea28, H1⟩ := bd_e H
  clear H
  rw [ea28]
  obtain ⟨h29, eh29, H2⟩ := lt_e H1
  clear H1
  refine ev_putIF (M := T12_init) (pc := 678) j_ok0 fl_X12_255 eh29 dX12_init_678 (K := ?_)
  refine ev_aload_n (M := T12_init) (pc := 681) 0 dX12_init_681 (k := ?_)
  refine ev_iload_n (M := T12_init) (pc := 682) 1 dX12_init_682 (k := ?_)
  refine ev_ifge (M := T12_init) (pc := 683) 690 dX12_init_683 (kt := fun hc => ?_) (kf := fun hc => ?_)
  · replace H2 := if_pe hc H2
    refine ev_iload_n (M := T12_init) (pc := 690) 1 dX12_init_690 (k := ?_)
    refine ev_aload_n (M := T12_init) (pc := 691) 0 dX12_init_691 (k := ?_)
    refine ev_getI (M := T12_init) (pc := 692) (x := h29.1 12 0 0) fl_X12_255 dX12_init_692 (K := ?_)
    refine ev_icmple (M := T12_init) (pc := 695) 705 dX12_init_695 (kt := fun hc => ?_) (kf := fun hc => ?_)
    · replace H2 := if_pe hc H2
      refine ev_iload_n (M := T12_init) (pc := 705) 1 dX12_init_705 (k := ?_)
      refine ev_mono (mc := 0) (ms := 0) (by omega) (by omega) ?_
      refine ev_lv [0] [(0, .inr (.inr (some (12, 0))))] (k := ?_)
      exact I12_init_706 (some 0) l2 h29 _ H2
    · replace H2 := if_ne hc H2
      refine ev_aload_n (M := T12_init) (pc := 698) 0 dX12_init_698 (k := ?_)
      refine ev_getI (M := T12_init) (pc := 699) (x := h29.1 12 0 0) fl_X12_255 dX12_init_699 (K := ?_)
      refine ev_goto (M := T12_init) (pc := 702) 706 dX12_init_702 (k := ?_)
      refine ev_mono (mc := 0) (ms := 0) (by omega) (by omega) ?_
      refine ev_lv [0] [(0, .inr (.inr (some (12, 0))))] (k := ?_)
      exact I12_init_706 (some 0) (h29.1 12 0 0) h29 _ H2
  · replace H2 := if_ne hc H2
    refine ev_iconst (M := T12_init) (pc := 686) dX12_init_686 (k := ?_)
    refine ev_goto (M := T12_init) (pc := 687) 706 dX12_init_687 (k := ?_)
    refine ev_mono (mc := 0) (ms := 0) (by omega) (by omega) ?_
    refine ev_lv [0] [(0, .inr (.inr (some (12, 0))))] (k := ?_)
    exact I12_init_706 (some 0) 0 h29 _ H2
set_option maxRecDepth 100000 in
set_option maxHeartbeats 4000000 in
theorem I12_init {l1 : Int} {l2 : Int} {h : JM} {res : JM} (H : F12_init l1 l2 h = some res) : Cn j_W0 3 81 61028 yX12_init cX12_init 4 none [.inr (.inr (some (12, 0))), .inl (l1), .inl (l2)] h none res := by
  refine Cn.by (own := RX12) (b := true) [(0, .inr (.inr (some (12, 0)))), (1, .inl (l1)), (2, .inl (l2))] rfl (fun _ => rfl) (by decide +kernel) (K := ?_)
  unfold F12_init at H
  refine ev_aload_n (M := T12_init) (pc := 0) 0 dX12_init_0 (k := ?_)
  refine ev_objInit (M := T12_init) (pc := 1) (n0 := _) ml_X12_1 j_oi j_oc dX12_init_1 (by decide) (K := ?_)
  refine ev_aload_n (M := T12_init) (pc := 4) 0 dX12_init_4 (k := ?_)
  refine ev_bipush (M := T12_init) (pc := 5) dX12_init_5 (k := ?_)
  obtain ⟨hn, H1⟩ := g_e H
  clear H
  refine ev_mono (mc := 1 + (80)) (ms := (12 : Int).toNat + (61016)) (by omega) (by show 12 + _ ≤ _; omega) ?_
  obtain ⟨h30, eh30, H2⟩ := lt_e H1
  clear H1
  refine ev_newI (M := T12_init) (pc := 7) (k := 103) (mc := 80) (ms := 61016) (len := 12) 0 (j_wn0 _ (by decide) hn) eh30 (by decide) (by decide) dX12_init_7 (K := ?_)
  obtain ⟨h31, eh31, H3⟩ := lt_e H2
  clear H2
  refine ev_putRF (M := T12_init) (pc := 9) (t := 103) j_ok0 (some 0) fl_X12_9 eh31 (hdg := dX12_init_9) (K := ?_)
  refine ev_aload_n (M := T12_init) (pc := 12) 0 dX12_init_12 (k := ?_)
  refine ev_iconst (M := T12_init) (pc := 13) dX12_init_13 (k := ?_)
  obtain ⟨hn, H4⟩ := g_e H3
  clear H3
  refine ev_mono (mc := 1 + (79)) (ms := (2 : Int).toNat + (61014)) (by omega) (by show 2 + _ ≤ _; omega) ?_
  obtain ⟨h32, eh32, H5⟩ := lt_e H4
  clear H4
  refine ev_newI (M := T12_init) (pc := 14) (k := 105) (mc := 79) (ms := 61014) (len := 2) 0 (j_wn0 _ (by decide) hn) eh32 (by decide) (by decide) dX12_init_14 (K := ?_)
  obtain ⟨h33, eh33, H6⟩ := lt_e H5
  clear H5
  refine ev_putRF (M := T12_init) (pc := 16) (t := 105) j_ok0 (some 0) fl_X12_13 eh33 (hdg := dX12_init_16) (K := ?_)
  refine ev_aload_n (M := T12_init) (pc := 19) 0 dX12_init_19 (k := ?_)
  refine ev_sipush (M := T12_init) (pc := 20) dX12_init_20 (k := ?_)
  obtain ⟨hn, H7⟩ := g_e H6
  clear H6
  refine ev_mono (mc := 1 + (78)) (ms := (576 : Int).toNat + (60438)) (by omega) (by show 576 + _ ≤ _; omega) ?_
  obtain ⟨h34, eh34, H8⟩ := lt_e H7
  clear H7
  refine ev_newI (M := T12_init) (pc := 23) (k := 106) (mc := 78) (ms := 60438) (len := 576) 0 (j_wn0 _ (by decide) hn) eh34 (by decide) (by decide) dX12_init_23 (K := ?_)
  obtain ⟨h35, eh35, H9⟩ := lt_e H8
  clear H8
  refine ev_putRF (M := T12_init) (pc := 25) (t := 106) j_ok0 (some 0) fl_X12_16 eh35 (hdg := dX12_init_25) (K := ?_)
  refine ev_aload_n (M := T12_init) (pc := 28) 0 dX12_init_28 (k := ?_)
  refine ev_bipush (M := T12_init) (pc := 29) dX12_init_29 (k := ?_)
  obtain ⟨hn, H10⟩ := g_e H9
  clear H9
  refine ev_mono (mc := 1 + (77)) (ms := (48 : Int).toNat + (60390)) (by omega) (by show 48 + _ ≤ _; omega) ?_
  obtain ⟨h36, eh36, H11⟩ := lt_e H10
  clear H10
  refine ev_newI (M := T12_init) (pc := 31) (k := 107) (mc := 77) (ms := 60390) (len := 48) 0 (j_wn0 _ (by decide) hn) eh36 (by decide) (by decide) dX12_init_31 (K := ?_)
  obtain ⟨h37, eh37, H12⟩ := lt_e H11
  clear H11
  refine ev_putRF (M := T12_init) (pc := 33) (t := 107) j_ok0 (some 0) fl_X12_19 eh37 (hdg := dX12_init_33) (K := ?_)
  refine ev_aload_n (M := T12_init) (pc := 36) 0 dX12_init_36 (k := ?_)
  refine ev_bipush (M := T12_init) (pc := 37) dX12_init_37 (k := ?_)
  obtain ⟨hn, H13⟩ := g_e H12
  clear H12
  refine ev_mono (mc := 1 + (76)) (ms := (48 : Int).toNat + (60342)) (by omega) (by show 48 + _ ≤ _; omega) ?_
  obtain ⟨h38, eh38, H14⟩ := lt_e H13
  clear H13
  refine ev_newI (M := T12_init) (pc := 39) (k := 108) (mc := 76) (ms := 60342) (len := 48) 0 (j_wn0 _ (by decide) hn) eh38 (by decide) (by decide) dX12_init_39 (K := ?_)
  obtain ⟨h39, eh39, H15⟩ := lt_e H14
  clear H14
  refine ev_putRF (M := T12_init) (pc := 41) (t := 108) j_ok0 (some 0) fl_X12_22 eh39 (hdg := dX12_init_41) (K := ?_)
  refine ev_aload_n (M := T12_init) (pc := 44) 0 dX12_init_44 (k := ?_)
  refine ev_bipush (M := T12_init) (pc := 45) dX12_init_45 (k := ?_)
  obtain ⟨hn, H16⟩ := g_e H15
  clear H15
  refine ev_mono (mc := 1 + (75)) (ms := (48 : Int).toNat + (60294)) (by omega) (by show 48 + _ ≤ _; omega) ?_
  obtain ⟨h40, eh40, H17⟩ := lt_e H16
  clear H16
  refine ev_newI (M := T12_init) (pc := 47) (k := 109) (mc := 75) (ms := 60294) (len := 48) 0 (j_wn0 _ (by decide) hn) eh40 (by decide) (by decide) dX12_init_47 (K := ?_)
  obtain ⟨h41, eh41, H18⟩ := lt_e H17
  clear H17
  refine ev_putRF (M := T12_init) (pc := 49) (t := 109) j_ok0 (some 0) fl_X12_25 eh41 (hdg := dX12_init_49) (K := ?_)
  refine ev_aload_n (M := T12_init) (pc := 52) 0 dX12_init_52 (k := ?_)
  refine ev_bipush (M := T12_init) (pc := 53) dX12_init_53 (k := ?_)
  obtain ⟨hn, H19⟩ := g_e H18
  clear H18
  refine ev_mono (mc := 1 + (74)) (ms := (48 : Int).toNat + (60246)) (by omega) (by show 48 + _ ≤ _; omega) ?_
  obtain ⟨h42, eh42, H20⟩ := lt_e H19
  clear H19
  refine ev_newI (M := T12_init) (pc := 55) (k := 110) (mc := 74) (ms := 60246) (len := 48) 0 (j_wn0 _ (by decide) hn) eh42 (by decide) (by decide) dX12_init_55 (K := ?_)
  obtain ⟨h43, eh43, H21⟩ := lt_e H20
  clear H20
  refine ev_putRF (M := T12_init) (pc := 57) (t := 110) j_ok0 (some 0) fl_X12_28 eh43 (hdg := dX12_init_57) (K := ?_)
  refine ev_aload_n (M := T12_init) (pc := 60) 0 dX12_init_60 (k := ?_)
  refine ev_bipush (M := T12_init) (pc := 61) dX12_init_61 (k := ?_)
  obtain ⟨hn, H22⟩ := g_e H21
  clear H21
  refine ev_mono (mc := 1 + (73)) (ms := (48 : Int).toNat + (60198)) (by omega) (by show 48 + _ ≤ _; omega) ?_
  obtain ⟨h44, eh44, H23⟩ := lt_e H22
  clear H22
  refine ev_newI (M := T12_init) (pc := 63) (k := 111) (mc := 73) (ms := 60198) (len := 48) 0 (j_wn0 _ (by decide) hn) eh44 (by decide) (by decide) dX12_init_63 (K := ?_)
  obtain ⟨h45, eh45, H24⟩ := lt_e H23
  clear H23
  refine ev_putRF (M := T12_init) (pc := 65) (t := 111) j_ok0 (some 0) fl_X12_31 eh45 (hdg := dX12_init_65) (K := ?_)
  refine ev_aload_n (M := T12_init) (pc := 68) 0 dX12_init_68 (k := ?_)
  refine ev_bipush (M := T12_init) (pc := 69) dX12_init_69 (k := ?_)
  obtain ⟨hn, H25⟩ := g_e H24
  clear H24
  refine ev_mono (mc := 1 + (72)) (ms := (16 : Int).toNat + (60182)) (by omega) (by show 16 + _ ≤ _; omega) ?_
  obtain ⟨h46, eh46, H26⟩ := lt_e H25
  clear H25
  refine ev_newZ (M := T12_init) (pc := 71) (k := 112) (mc := 72) (ms := 60182) (len := 16) 0 (j_wn0 _ (by decide) hn) eh46 (by decide) (by decide) dX12_init_71 (K := ?_)
  obtain ⟨h47, eh47, H27⟩ := lt_e H26
  clear H26
  refine ev_putRF (M := T12_init) (pc := 73) (t := 112) j_ok0 (some 0) fl_X12_34 eh47 (hdg := dX12_init_73) (K := ?_)
  refine ev_aload_n (M := T12_init) (pc := 76) 0 dX12_init_76 (k := ?_)
  refine ev_bipush (M := T12_init) (pc := 77) dX12_init_77 (k := ?_)
  obtain ⟨hn, H28⟩ := g_e H27
  clear H27
  refine ev_mono (mc := 1 + (71)) (ms := (16 : Int).toNat + (60166)) (by omega) (by show 16 + _ ≤ _; omega) ?_
  obtain ⟨h48, eh48, H29⟩ := lt_e H28
  clear H28
  refine ev_newZ (M := T12_init) (pc := 79) (k := 113) (mc := 71) (ms := 60166) (len := 16) 0 (j_wn0 _ (by decide) hn) eh48 (by decide) (by decide) dX12_init_79 (K := ?_)
  obtain ⟨h49, eh49, H30⟩ := lt_e H29
  clear H29
  refine ev_putRF (M := T12_init) (pc := 81) (t := 113) j_ok0 (some 0) fl_X12_38 eh49 (hdg := dX12_init_81) (K := ?_)
  refine ev_aload_n (M := T12_init) (pc := 84) 0 dX12_init_84 (k := ?_)
  refine ev_bipush (M := T12_init) (pc := 85) dX12_init_85 (k := ?_)
  obtain ⟨hn, H31⟩ := g_e H30
  clear H30
  refine ev_mono (mc := 1 + (70)) (ms := (16 : Int).toNat + (60150)) (by omega) (by show 16 + _ ≤ _; omega) ?_
  obtain ⟨h50, eh50, H32⟩ := lt_e H31
  clear H31
  refine ev_newI (M := T12_init) (pc := 87) (k := 114) (mc := 70) (ms := 60150) (len := 16) 0 (j_wn0 _ (by decide) hn) eh50 (by decide) (by decide) dX12_init_87 (K := ?_)
  obtain ⟨h51, eh51, H33⟩ := lt_e H32
  clear H32
  refine ev_putRF (M := T12_init) (pc := 89) (t := 114) j_ok0 (some 0) fl_X12_41 eh51 (hdg := dX12_init_89) (K := ?_)
  refine ev_aload_n (M := T12_init) (pc := 92) 0 dX12_init_92 (k := ?_)
  refine ev_bipush (M := T12_init) (pc := 93) dX12_init_93 (k := ?_)
  obtain ⟨hn, H34⟩ := g_e H33
  clear H33
  refine ev_mono (mc := 1 + (69)) (ms := (16 : Int).toNat + (60134)) (by omega) (by show 16 + _ ≤ _; omega) ?_
  obtain ⟨h52, eh52, H35⟩ := lt_e H34
  clear H34
  refine ev_newI (M := T12_init) (pc := 95) (k := 115) (mc := 69) (ms := 60134) (len := 16) 0 (j_wn0 _ (by decide) hn) eh52 (by decide) (by decide) dX12_init_95 (K := ?_)
  obtain ⟨h53, eh53, H36⟩ := lt_e H35
  clear H35
  refine ev_putRF (M := T12_init) (pc := 97) (t := 115) j_ok0 (some 0) fl_X12_44 eh53 (hdg := dX12_init_97) (K := ?_)
  refine ev_aload_n (M := T12_init) (pc := 100) 0 dX12_init_100 (k := ?_)
  refine ev_bipush (M := T12_init) (pc := 101) dX12_init_101 (k := ?_)
  obtain ⟨hn, H37⟩ := g_e H36
  clear H36
  refine ev_mono (mc := 1 + (68)) (ms := (16 : Int).toNat + (60118)) (by omega) (by show 16 + _ ≤ _; omega) ?_
  obtain ⟨h54, eh54, H38⟩ := lt_e H37
  clear H37
  refine ev_newI (M := T12_init) (pc := 103) (k := 116) (mc := 68) (ms := 60118) (len := 16) 0 (j_wn0 _ (by decide) hn) eh54 (by decide) (by decide) dX12_init_103 (K := ?_)
  obtain ⟨h55, eh55, H39⟩ := lt_e H38
  clear H38
  refine ev_putRF (M := T12_init) (pc := 105) (t := 116) j_ok0 (some 0) fl_X12_47 eh55 (hdg := dX12_init_105) (K := ?_)
  refine ev_aload_n (M := T12_init) (pc := 108) 0 dX12_init_108 (k := ?_)
  refine ev_sipush (M := T12_init) (pc := 109) dX12_init_109 (k := ?_)
  obtain ⟨hn, H40⟩ := g_e H39
  clear H39
  refine ev_mono (mc := 1 + (67)) (ms := (320 : Int).toNat + (59798)) (by omega) (by show 320 + _ ≤ _; omega) ?_
  obtain ⟨h56, eh56, H41⟩ := lt_e H40
  clear H40
  refine ev_newI (M := T12_init) (pc := 112) (k := 117) (mc := 67) (ms := 59798) (len := 320) 0 (j_wn0 _ (by decide) hn) eh56 (by decide) (by decide) dX12_init_112 (K := ?_)
  obtain ⟨h57, eh57, H42⟩ := lt_e H41
  clear H41
  refine ev_putRF (M := T12_init) (pc := 114) (t := 117) j_ok0 (some 0) fl_X12_50 eh57 (hdg := dX12_init_114) (K := ?_)
  refine ev_aload_n (M := T12_init) (pc := 117) 0 dX12_init_117 (k := ?_)
  refine ev_bipush (M := T12_init) (pc := 118) dX12_init_118 (k := ?_)
  obtain ⟨hn, H43⟩ := g_e H42
  clear H42
  refine ev_mono (mc := 1 + (66)) (ms := (16 : Int).toNat + (59782)) (by omega) (by show 16 + _ ≤ _; omega) ?_
  obtain ⟨h58, eh58, H44⟩ := lt_e H43
  clear H43
  refine ev_newI (M := T12_init) (pc := 120) (k := 118) (mc := 66) (ms := 59782) (len := 16) 0 (j_wn0 _ (by decide) hn) eh58 (by decide) (by decide) dX12_init_120 (K := ?_)
  obtain ⟨h59, eh59, H45⟩ := lt_e H44
  clear H44
  refine ev_putRF (M := T12_init) (pc := 122) (t := 118) j_ok0 (some 0) fl_X12_53 eh59 (hdg := dX12_init_122) (K := ?_)
  refine ev_aload_n (M := T12_init) (pc := 125) 0 dX12_init_125 (k := ?_)
  refine ev_bipush (M := T12_init) (pc := 126) dX12_init_126 (k := ?_)
  obtain ⟨hn, H46⟩ := g_e H45
  clear H45
  refine ev_mono (mc := 1 + (65)) (ms := (16 : Int).toNat + (59766)) (by omega) (by show 16 + _ ≤ _; omega) ?_
  obtain ⟨h60, eh60, H47⟩ := lt_e H46
  clear H46
  refine ev_newI (M := T12_init) (pc := 128) (k := 119) (mc := 65) (ms := 59766) (len := 16) 0 (j_wn0 _ (by decide) hn) eh60 (by decide) (by decide) dX12_init_128 (K := ?_)
  obtain ⟨h61, eh61, H48⟩ := lt_e H47
  clear H47
  refine ev_putRF (M := T12_init) (pc := 130) (t := 119) j_ok0 (some 0) fl_X12_56 eh61 (hdg := dX12_init_130) (K := ?_)
  refine ev_aload_n (M := T12_init) (pc := 133) 0 dX12_init_133 (k := ?_)
  refine ev_bipush (M := T12_init) (pc := 134) dX12_init_134 (k := ?_)
  obtain ⟨hn, H49⟩ := g_e H48
  clear H48
  refine ev_mono (mc := 1 + (64)) (ms := (16 : Int).toNat + (59750)) (by omega) (by show 16 + _ ≤ _; omega) ?_
  obtain ⟨h62, eh62, H50⟩ := lt_e H49
  clear H49
  refine ev_newI (M := T12_init) (pc := 136) (k := 120) (mc := 64) (ms := 59750) (len := 16) 0 (j_wn0 _ (by decide) hn) eh62 (by decide) (by decide) dX12_init_136 (K := ?_)
  obtain ⟨h63, eh63, H51⟩ := lt_e H50
  clear H50
  refine ev_putRF (M := T12_init) (pc := 138) (t := 120) j_ok0 (some 0) fl_X12_59 eh63 (hdg := dX12_init_138) (K := ?_)
  refine ev_aload_n (M := T12_init) (pc := 141) 0 dX12_init_141 (k := ?_)
  refine ev_bipush (M := T12_init) (pc := 142) dX12_init_142 (k := ?_)
  obtain ⟨hn, H52⟩ := g_e H51
  clear H51
  refine ev_mono (mc := 1 + (63)) (ms := (16 : Int).toNat + (59734)) (by omega) (by show 16 + _ ≤ _; omega) ?_
  obtain ⟨h64, eh64, H53⟩ := lt_e H52
  clear H52
  refine ev_newI (M := T12_init) (pc := 144) (k := 121) (mc := 63) (ms := 59734) (len := 16) 0 (j_wn0 _ (by decide) hn) eh64 (by decide) (by decide) dX12_init_144 (K := ?_)
  obtain ⟨h65, eh65, H54⟩ := lt_e H53
  clear H53
  refine ev_putRF (M := T12_init) (pc := 146) (t := 121) j_ok0 (some 0) fl_X12_62 eh65 (hdg := dX12_init_146) (K := ?_)
  refine ev_aload_n (M := T12_init) (pc := 149) 0 dX12_init_149 (k := ?_)
  refine ev_bipush (M := T12_init) (pc := 150) dX12_init_150 (k := ?_)
  obtain ⟨hn, H55⟩ := g_e H54
  clear H54
  refine ev_mono (mc := 1 + (62)) (ms := (16 : Int).toNat + (59718)) (by omega) (by show 16 + _ ≤ _; omega) ?_
  obtain ⟨h66, eh66, H56⟩ := lt_e H55
  clear H55
  refine ev_newI (M := T12_init) (pc := 152) (k := 122) (mc := 62) (ms := 59718) (len := 16) 0 (j_wn0 _ (by decide) hn) eh66 (by decide) (by decide) dX12_init_152 (K := ?_)
  obtain ⟨h67, eh67, H57⟩ := lt_e H56
  clear H56
  refine ev_putRF (M := T12_init) (pc := 154) (t := 122) j_ok0 (some 0) fl_X12_65 eh67 (hdg := dX12_init_154) (K := ?_)
  refine ev_aload_n (M := T12_init) (pc := 157) 0 dX12_init_157 (k := ?_)
  refine ev_bipush (M := T12_init) (pc := 158) dX12_init_158 (k := ?_)
  obtain ⟨hn, H58⟩ := g_e H57
  clear H57
  refine ev_mono (mc := 1 + (61)) (ms := (16 : Int).toNat + (59702)) (by omega) (by show 16 + _ ≤ _; omega) ?_
  obtain ⟨h68, eh68, H59⟩ := lt_e H58
  clear H58
  refine ev_newI (M := T12_init) (pc := 160) (k := 123) (mc := 61) (ms := 59702) (len := 16) 0 (j_wn0 _ (by decide) hn) eh68 (by decide) (by decide) dX12_init_160 (K := ?_)
  obtain ⟨h69, eh69, H60⟩ := lt_e H59
  clear H59
  refine ev_putRF (M := T12_init) (pc := 162) (t := 123) j_ok0 (some 0) fl_X12_68 eh69 (hdg := dX12_init_162) (K := ?_)
  refine ev_aload_n (M := T12_init) (pc := 165) 0 dX12_init_165 (k := ?_)
  refine ev_bipush (M := T12_init) (pc := 166) dX12_init_166 (k := ?_)
  obtain ⟨hn, H61⟩ := g_e H60
  clear H60
  refine ev_mono (mc := 1 + (60)) (ms := (16 : Int).toNat + (59686)) (by omega) (by show 16 + _ ≤ _; omega) ?_
  obtain ⟨h70, eh70, H62⟩ := lt_e H61
  clear H61
  refine ev_newZ (M := T12_init) (pc := 168) (k := 124) (mc := 60) (ms := 59686) (len := 16) 0 (j_wn0 _ (by decide) hn) eh70 (by decide) (by decide) dX12_init_168 (K := ?_)
  obtain ⟨h71, eh71, H63⟩ := lt_e H62
  clear H62
  refine ev_putRF (M := T12_init) (pc := 170) (t := 124) j_ok0 (some 0) fl_X12_71 eh71 (hdg := dX12_init_170) (K := ?_)
  refine ev_aload_n (M := T12_init) (pc := 173) 0 dX12_init_173 (k := ?_)
  refine ev_bipush (M := T12_init) (pc := 174) dX12_init_174 (k := ?_)
  obtain ⟨hn, H64⟩ := g_e H63
  clear H63
  refine ev_mono (mc := 1 + (59)) (ms := (16 : Int).toNat + (59670)) (by omega) (by show 16 + _ ≤ _; omega) ?_
  obtain ⟨h72, eh72, H65⟩ := lt_e H64
  clear H64
  refine ev_newI (M := T12_init) (pc := 176) (k := 125) (mc := 59) (ms := 59670) (len := 16) 0 (j_wn0 _ (by decide) hn) eh72 (by decide) (by decide) dX12_init_176 (K := ?_)
  obtain ⟨h73, eh73, H66⟩ := lt_e H65
  clear H65
  refine ev_putRF (M := T12_init) (pc := 178) (t := 125) j_ok0 (some 0) fl_X12_74 eh73 (hdg := dX12_init_178) (K := ?_)
  refine ev_aload_n (M := T12_init) (pc := 181) 0 dX12_init_181 (k := ?_)
  refine ev_bipush (M := T12_init) (pc := 182) dX12_init_182 (k := ?_)
  obtain ⟨hn, H67⟩ := g_e H66
  clear H66
  refine ev_mono (mc := 1 + (58)) (ms := (16 : Int).toNat + (59654)) (by omega) (by show 16 + _ ≤ _; omega) ?_
  obtain ⟨h74, eh74, H68⟩ := lt_e H67
  clear H67
  refine ev_newI (M := T12_init) (pc := 184) (k := 126) (mc := 58) (ms := 59654) (len := 16) 0 (j_wn0 _ (by decide) hn) eh74 (by decide) (by decide) dX12_init_184 (K := ?_)
  obtain ⟨h75, eh75, H69⟩ := lt_e H68
  clear H68
  refine ev_putRF (M := T12_init) (pc := 186) (t := 126) j_ok0 (some 0) fl_X12_77 eh75 (hdg := dX12_init_186) (K := ?_)
  refine ev_aload_n (M := T12_init) (pc := 189) 0 dX12_init_189 (k := ?_)
  refine ev_bipush (M := T12_init) (pc := 190) dX12_init_190 (k := ?_)
  obtain ⟨hn, H70⟩ := g_e H69
  clear H69
  refine ev_mono (mc := 1 + (57)) (ms := (48 : Int).toNat + (59606)) (by omega) (by show 48 + _ ≤ _; omega) ?_
  obtain ⟨h76, eh76, H71⟩ := lt_e H70
  clear H70
  refine ev_newZ (M := T12_init) (pc := 192) (k := 127) (mc := 57) (ms := 59606) (len := 48) 0 (j_wn0 _ (by decide) hn) eh76 (by decide) (by decide) dX12_init_192 (K := ?_)
  obtain ⟨h77, eh77, H72⟩ := lt_e H71
  clear H71
  refine ev_putRF (M := T12_init) (pc := 194) (t := 127) j_ok0 (some 0) fl_X12_80 eh77 (hdg := dX12_init_194) (K := ?_)
  refine ev_aload_n (M := T12_init) (pc := 197) 0 dX12_init_197 (k := ?_)
  refine ev_sipush (M := T12_init) (pc := 198) dX12_init_198 (k := ?_)
  obtain ⟨hn, H73⟩ := g_e H72
  clear H72
  refine ev_mono (mc := 1 + (56)) (ms := (576 : Int).toNat + (59030)) (by omega) (by show 576 + _ ≤ _; omega) ?_
  obtain ⟨h78, eh78, H74⟩ := lt_e H73
  clear H73
  refine ev_newI (M := T12_init) (pc := 201) (k := 128) (mc := 56) (ms := 59030) (len := 576) 0 (j_wn0 _ (by decide) hn) eh78 (by decide) (by decide) dX12_init_201 (K := ?_)
  obtain ⟨h79, eh79, H75⟩ := lt_e H74
  clear H74
  refine ev_putRF (M := T12_init) (pc := 203) (t := 128) j_ok0 (some 0) fl_X12_83 eh79 (hdg := dX12_init_203) (K := ?_)
  refine ev_aload_n (M := T12_init) (pc := 206) 0 dX12_init_206 (k := ?_)
  refine ev_bipush (M := T12_init) (pc := 207) dX12_init_207 (k := ?_)
  obtain ⟨hn, H76⟩ := g_e H75
  clear H75
  refine ev_mono (mc := 1 + (55)) (ms := (48 : Int).toNat + (58982)) (by omega) (by show 48 + _ ≤ _; omega) ?_
  obtain ⟨h80, eh80, H77⟩ := lt_e H76
  clear H76
  refine ev_newI (M := T12_init) (pc := 209) (k := 129) (mc := 55) (ms := 58982) (len := 48) 0 (j_wn0 _ (by decide) hn) eh80 (by decide) (by decide) dX12_init_209 (K := ?_)
  obtain ⟨h81, eh81, H78⟩ := lt_e H77
  clear H77
  refine ev_putRF (M := T12_init) (pc := 211) (t := 129) j_ok0 (some 0) fl_X12_86 eh81 (hdg := dX12_init_211) (K := ?_)
  refine ev_aload_n (M := T12_init) (pc := 214) 0 dX12_init_214 (k := ?_)
  refine ev_bipush (M := T12_init) (pc := 215) dX12_init_215 (k := ?_)
  obtain ⟨hn, H79⟩ := g_e H78
  clear H78
  refine ev_mono (mc := 1 + (54)) (ms := (16 : Int).toNat + (58966)) (by omega) (by show 16 + _ ≤ _; omega) ?_
  obtain ⟨h82, eh82, H80⟩ := lt_e H79
  clear H79
  refine ev_newI (M := T12_init) (pc := 217) (k := 130) (mc := 54) (ms := 58966) (len := 16) 0 (j_wn0 _ (by decide) hn) eh82 (by decide) (by decide) dX12_init_217 (K := ?_)
  obtain ⟨h83, eh83, H81⟩ := lt_e H80
  clear H80
  refine ev_putRF (M := T12_init) (pc := 219) (t := 130) j_ok0 (some 0) fl_X12_89 eh83 (hdg := dX12_init_219) (K := ?_)
  refine ev_aload_n (M := T12_init) (pc := 222) 0 dX12_init_222 (k := ?_)
  refine ev_bipush (M := T12_init) (pc := 223) dX12_init_223 (k := ?_)
  obtain ⟨hn, H82⟩ := g_e H81
  clear H81
  refine ev_mono (mc := 1 + (53)) (ms := (16 : Int).toNat + (58950)) (by omega) (by show 16 + _ ≤ _; omega) ?_
  obtain ⟨h84, eh84, H83⟩ := lt_e H82
  clear H82
  refine ev_newI (M := T12_init) (pc := 225) (k := 131) (mc := 53) (ms := 58950) (len := 16) 0 (j_wn0 _ (by decide) hn) eh84 (by decide) (by decide) dX12_init_225 (K := ?_)
  obtain ⟨h85, eh85, H84⟩ := lt_e H83
  clear H83
  refine ev_putRF (M := T12_init) (pc := 227) (t := 131) j_ok0 (some 0) fl_X12_92 eh85 (hdg := dX12_init_227) (K := ?_)
  refine ev_aload_n (M := T12_init) (pc := 230) 0 dX12_init_230 (k := ?_)
  refine ev_bipush (M := T12_init) (pc := 231) dX12_init_231 (k := ?_)
  obtain ⟨hn, H85⟩ := g_e H84
  clear H84
  refine ev_mono (mc := 1 + (52)) (ms := (80 : Int).toNat + (58870)) (by omega) (by show 80 + _ ≤ _; omega) ?_
  obtain ⟨h86, eh86, H86⟩ := lt_e H85
  clear H85
  refine ev_newI (M := T12_init) (pc := 233) (k := 133) (mc := 52) (ms := 58870) (len := 80) 0 (j_wn0 _ (by decide) hn) eh86 (by decide) (by decide) dX12_init_233 (K := ?_)
  obtain ⟨h87, eh87, H87⟩ := lt_e H86
  clear H86
  refine ev_putRF (M := T12_init) (pc := 235) (t := 133) j_ok0 (some 0) fl_X12_95 eh87 (hdg := dX12_init_235) (K := ?_)
  refine ev_aload_n (M := T12_init) (pc := 238) 0 dX12_init_238 (k := ?_)
  refine ev_bipush (M := T12_init) (pc := 239) dX12_init_239 (k := ?_)
  obtain ⟨hn, H88⟩ := g_e H87
  clear H87
  refine ev_mono (mc := 1 + (51)) (ms := (80 : Int).toNat + (58790)) (by omega) (by show 80 + _ ≤ _; omega) ?_
  obtain ⟨h88, eh88, H89⟩ := lt_e H88
  clear H88
  refine ev_newI (M := T12_init) (pc := 241) (k := 134) (mc := 51) (ms := 58790) (len := 80) 0 (j_wn0 _ (by decide) hn) eh88 (by decide) (by decide) dX12_init_241 (K := ?_)
  obtain ⟨h89, eh89, H90⟩ := lt_e H89
  clear H89
  refine ev_putRF (M := T12_init) (pc := 243) (t := 134) j_ok0 (some 0) fl_X12_98 eh89 (hdg := dX12_init_243) (K := ?_)
  refine ev_aload_n (M := T12_init) (pc := 246) 0 dX12_init_246 (k := ?_)
  refine ev_bipush (M := T12_init) (pc := 247) dX12_init_247 (k := ?_)
  obtain ⟨hn, H91⟩ := g_e H90
  clear H90
  refine ev_mono (mc := 1 + (50)) (ms := (80 : Int).toNat + (58710)) (by omega) (by show 80 + _ ≤ _; omega) ?_
  obtain ⟨h90, eh90, H92⟩ := lt_e H91
  clear H91
  refine ev_newI (M := T12_init) (pc := 249) (k := 135) (mc := 50) (ms := 58710) (len := 80) 0 (j_wn0 _ (by decide) hn) eh90 (by decide) (by decide) dX12_init_249 (K := ?_)
  obtain ⟨h91, eh91, H93⟩ := lt_e H92
  clear H92
  refine ev_putRF (M := T12_init) (pc := 251) (t := 135) j_ok0 (some 0) fl_X12_101 eh91 (hdg := dX12_init_251) (K := ?_)
  refine ev_aload_n (M := T12_init) (pc := 254) 0 dX12_init_254 (k := ?_)
  refine ev_bipush (M := T12_init) (pc := 255) dX12_init_255 (k := ?_)
  obtain ⟨hn, H94⟩ := g_e H93
  clear H93
  refine ev_mono (mc := 1 + (49)) (ms := (80 : Int).toNat + (58630)) (by omega) (by show 80 + _ ≤ _; omega) ?_
  obtain ⟨h92, eh92, H95⟩ := lt_e H94
  clear H94
  refine ev_newI (M := T12_init) (pc := 257) (k := 136) (mc := 49) (ms := 58630) (len := 80) 0 (j_wn0 _ (by decide) hn) eh92 (by decide) (by decide) dX12_init_257 (K := ?_)
  obtain ⟨h93, eh93, H96⟩ := lt_e H95
  clear H95
  refine ev_putRF (M := T12_init) (pc := 259) (t := 136) j_ok0 (some 0) fl_X12_104 eh93 (hdg := dX12_init_259) (K := ?_)
  refine ev_aload_n (M := T12_init) (pc := 262) 0 dX12_init_262 (k := ?_)
  refine ev_bipush (M := T12_init) (pc := 263) dX12_init_263 (k := ?_)
  obtain ⟨hn, H97⟩ := g_e H96
  clear H96
  refine ev_mono (mc := 1 + (48)) (ms := (80 : Int).toNat + (58550)) (by omega) (by show 80 + _ ≤ _; omega) ?_
  obtain ⟨h94, eh94, H98⟩ := lt_e H97
  clear H97
  refine ev_newI (M := T12_init) (pc := 265) (k := 137) (mc := 48) (ms := 58550) (len := 80) 0 (j_wn0 _ (by decide) hn) eh94 (by decide) (by decide) dX12_init_265 (K := ?_)
  obtain ⟨h95, eh95, H99⟩ := lt_e H98
  clear H98
  refine ev_putRF (M := T12_init) (pc := 267) (t := 137) j_ok0 (some 0) fl_X12_107 eh95 (hdg := dX12_init_267) (K := ?_)
  refine ev_aload_n (M := T12_init) (pc := 270) 0 dX12_init_270 (k := ?_)
  refine ev_bipush (M := T12_init) (pc := 271) dX12_init_271 (k := ?_)
  obtain ⟨hn, H100⟩ := g_e H99
  clear H99
  refine ev_mono (mc := 1 + (47)) (ms := (80 : Int).toNat + (58470)) (by omega) (by show 80 + _ ≤ _; omega) ?_
  obtain ⟨h96, eh96, H101⟩ := lt_e H100
  clear H100
  refine ev_newI (M := T12_init) (pc := 273) (k := 138) (mc := 47) (ms := 58470) (len := 80) 0 (j_wn0 _ (by decide) hn) eh96 (by decide) (by decide) dX12_init_273 (K := ?_)
  obtain ⟨h97, eh97, H102⟩ := lt_e H101
  clear H101
  refine ev_putRF (M := T12_init) (pc := 275) (t := 138) j_ok0 (some 0) fl_X12_110 eh97 (hdg := dX12_init_275) (K := ?_)
  refine ev_aload_n (M := T12_init) (pc := 278) 0 dX12_init_278 (k := ?_)
  refine ev_sipush (M := T12_init) (pc := 279) dX12_init_279 (k := ?_)
  obtain ⟨hn, H103⟩ := g_e H102
  clear H102
  refine ev_mono (mc := 1 + (46)) (ms := (960 : Int).toNat + (57510)) (by omega) (by show 960 + _ ≤ _; omega) ?_
  obtain ⟨h98, eh98, H104⟩ := lt_e H103
  clear H103
  refine ev_newI (M := T12_init) (pc := 282) (k := 139) (mc := 46) (ms := 57510) (len := 960) 0 (j_wn0 _ (by decide) hn) eh98 (by decide) (by decide) dX12_init_282 (K := ?_)
  obtain ⟨h99, eh99, H105⟩ := lt_e H104
  clear H104
  refine ev_putRF (M := T12_init) (pc := 284) (t := 139) j_ok0 (some 0) fl_X12_113 eh99 (hdg := dX12_init_284) (K := ?_)
  refine ev_aload_n (M := T12_init) (pc := 287) 0 dX12_init_287 (k := ?_)
  refine ev_bipush (M := T12_init) (pc := 288) dX12_init_288 (k := ?_)
  obtain ⟨hn, H106⟩ := g_e H105
  clear H105
  refine ev_mono (mc := 1 + (45)) (ms := (80 : Int).toNat + (57430)) (by omega) (by show 80 + _ ≤ _; omega) ?_
  obtain ⟨h100, eh100, H107⟩ := lt_e H106
  clear H106
  refine ev_newI (M := T12_init) (pc := 290) (k := 140) (mc := 45) (ms := 57430) (len := 80) 0 (j_wn0 _ (by decide) hn) eh100 (by decide) (by decide) dX12_init_290 (K := ?_)
  obtain ⟨h101, eh101, H108⟩ := lt_e H107
  clear H107
  refine ev_putRF (M := T12_init) (pc := 292) (t := 140) j_ok0 (some 0) fl_X12_116 eh101 (hdg := dX12_init_292) (K := ?_)
  refine ev_aload_n (M := T12_init) (pc := 295) 0 dX12_init_295 (k := ?_)
  refine ev_bipush (M := T12_init) (pc := 296) dX12_init_296 (k := ?_)
  obtain ⟨hn, H109⟩ := g_e H108
  clear H108
  refine ev_mono (mc := 1 + (44)) (ms := (80 : Int).toNat + (57350)) (by omega) (by show 80 + _ ≤ _; omega) ?_
  obtain ⟨h102, eh102, H110⟩ := lt_e H109
  clear H109
  refine ev_newI (M := T12_init) (pc := 298) (k := 141) (mc := 44) (ms := 57350) (len := 80) 0 (j_wn0 _ (by decide) hn) eh102 (by decide) (by decide) dX12_init_298 (K := ?_)
  obtain ⟨h103, eh103, H111⟩ := lt_e H110
  clear H110
  refine ev_putRF (M := T12_init) (pc := 300) (t := 141) j_ok0 (some 0) fl_X12_119 eh103 (hdg := dX12_init_300) (K := ?_)
  refine ev_aload_n (M := T12_init) (pc := 303) 0 dX12_init_303 (k := ?_)
  refine ev_bipush (M := T12_init) (pc := 304) dX12_init_304 (k := ?_)
  obtain ⟨hn, H112⟩ := g_e H111
  clear H111
  refine ev_mono (mc := 1 + (43)) (ms := (80 : Int).toNat + (57270)) (by omega) (by show 80 + _ ≤ _; omega) ?_
  obtain ⟨h104, eh104, H113⟩ := lt_e H112
  clear H112
  refine ev_newI (M := T12_init) (pc := 306) (k := 142) (mc := 43) (ms := 57270) (len := 80) 0 (j_wn0 _ (by decide) hn) eh104 (by decide) (by decide) dX12_init_306 (K := ?_)
  obtain ⟨h105, eh105, H114⟩ := lt_e H113
  clear H113
  refine ev_putRF (M := T12_init) (pc := 308) (t := 142) j_ok0 (some 0) fl_X12_122 eh105 (hdg := dX12_init_308) (K := ?_)
  refine ev_aload_n (M := T12_init) (pc := 311) 0 dX12_init_311 (k := ?_)
  refine ev_bipush (M := T12_init) (pc := 312) dX12_init_312 (k := ?_)
  obtain ⟨hn, H115⟩ := g_e H114
  clear H114
  refine ev_mono (mc := 1 + (42)) (ms := (80 : Int).toNat + (57190)) (by omega) (by show 80 + _ ≤ _; omega) ?_
  obtain ⟨h106, eh106, H116⟩ := lt_e H115
  clear H115
  refine ev_newI (M := T12_init) (pc := 314) (k := 143) (mc := 42) (ms := 57190) (len := 80) 0 (j_wn0 _ (by decide) hn) eh106 (by decide) (by decide) dX12_init_314 (K := ?_)
  obtain ⟨h107, eh107, H117⟩ := lt_e H116
  clear H116
  refine ev_putRF (M := T12_init) (pc := 316) (t := 143) j_ok0 (some 0) fl_X12_125 eh107 (hdg := dX12_init_316) (K := ?_)
  refine ev_aload_n (M := T12_init) (pc := 319) 0 dX12_init_319 (k := ?_)
  refine ev_bipush (M := T12_init) (pc := 320) dX12_init_320 (k := ?_)
  obtain ⟨hn, H118⟩ := g_e H117
  clear H117
  refine ev_mono (mc := 1 + (41)) (ms := (80 : Int).toNat + (57110)) (by omega) (by show 80 + _ ≤ _; omega) ?_
  obtain ⟨h108, eh108, H119⟩ := lt_e H118
  clear H118
  refine ev_newI (M := T12_init) (pc := 322) (k := 144) (mc := 41) (ms := 57110) (len := 80) 0 (j_wn0 _ (by decide) hn) eh108 (by decide) (by decide) dX12_init_322 (K := ?_)
  obtain ⟨h109, eh109, H120⟩ := lt_e H119
  clear H119
  refine ev_putRF (M := T12_init) (pc := 324) (t := 144) j_ok0 (some 0) fl_X12_128 eh109 (hdg := dX12_init_324) (K := ?_)
  refine ev_aload_n (M := T12_init) (pc := 327) 0 dX12_init_327 (k := ?_)
  refine ev_bipush (M := T12_init) (pc := 328) dX12_init_328 (k := ?_)
  obtain ⟨hn, H121⟩ := g_e H120
  clear H120
  refine ev_mono (mc := 1 + (40)) (ms := (80 : Int).toNat + (57030)) (by omega) (by show 80 + _ ≤ _; omega) ?_
  obtain ⟨h110, eh110, H122⟩ := lt_e H121
  clear H121
  refine ev_newI (M := T12_init) (pc := 330) (k := 145) (mc := 40) (ms := 57030) (len := 80) 0 (j_wn0 _ (by decide) hn) eh110 (by decide) (by decide) dX12_init_330 (K := ?_)
  obtain ⟨h111, eh111, H123⟩ := lt_e H122
  clear H122
  refine ev_putRF (M := T12_init) (pc := 332) (t := 145) j_ok0 (some 0) fl_X12_131 eh111 (hdg := dX12_init_332) (K := ?_)
  refine ev_aload_n (M := T12_init) (pc := 335) 0 dX12_init_335 (k := ?_)
  refine ev_bipush (M := T12_init) (pc := 336) dX12_init_336 (k := ?_)
  obtain ⟨hn, H124⟩ := g_e H123
  clear H123
  refine ev_mono (mc := 1 + (39)) (ms := (80 : Int).toNat + (56950)) (by omega) (by show 80 + _ ≤ _; omega) ?_
  obtain ⟨h112, eh112, H125⟩ := lt_e H124
  clear H124
  refine ev_newI (M := T12_init) (pc := 338) (k := 146) (mc := 39) (ms := 56950) (len := 80) 0 (j_wn0 _ (by decide) hn) eh112 (by decide) (by decide) dX12_init_338 (K := ?_)
  obtain ⟨h113, eh113, H126⟩ := lt_e H125
  clear H125
  refine ev_putRF (M := T12_init) (pc := 340) (t := 146) j_ok0 (some 0) fl_X12_134 eh113 (hdg := dX12_init_340) (K := ?_)
  refine ev_aload_n (M := T12_init) (pc := 343) 0 dX12_init_343 (k := ?_)
  refine ev_bipush (M := T12_init) (pc := 344) dX12_init_344 (k := ?_)
  obtain ⟨hn, H127⟩ := g_e H126
  clear H126
  refine ev_mono (mc := 1 + (38)) (ms := (80 : Int).toNat + (56870)) (by omega) (by show 80 + _ ≤ _; omega) ?_
  obtain ⟨h114, eh114, H128⟩ := lt_e H127
  clear H127
  refine ev_newI (M := T12_init) (pc := 346) (k := 147) (mc := 38) (ms := 56870) (len := 80) 0 (j_wn0 _ (by decide) hn) eh114 (by decide) (by decide) dX12_init_346 (K := ?_)
  obtain ⟨h115, eh115, H129⟩ := lt_e H128
  clear H128
  refine ev_putRF (M := T12_init) (pc := 348) (t := 147) j_ok0 (some 0) fl_X12_137 eh115 (hdg := dX12_init_348) (K := ?_)
  refine ev_aload_n (M := T12_init) (pc := 351) 0 dX12_init_351 (k := ?_)
  refine ev_bipush (M := T12_init) (pc := 352) dX12_init_352 (k := ?_)
  obtain ⟨hn, H130⟩ := g_e H129
  clear H129
  refine ev_mono (mc := 1 + (37)) (ms := (80 : Int).toNat + (56790)) (by omega) (by show 80 + _ ≤ _; omega) ?_
  obtain ⟨h116, eh116, H131⟩ := lt_e H130
  clear H130
  refine ev_newZ (M := T12_init) (pc := 354) (k := 148) (mc := 37) (ms := 56790) (len := 80) 0 (j_wn0 _ (by decide) hn) eh116 (by decide) (by decide) dX12_init_354 (K := ?_)
  obtain ⟨h117, eh117, H132⟩ := lt_e H131
  clear H131
  refine ev_putRF (M := T12_init) (pc := 356) (t := 148) j_ok0 (some 0) fl_X12_140 eh117 (hdg := dX12_init_356) (K := ?_)
  refine ev_aload_n (M := T12_init) (pc := 359) 0 dX12_init_359 (k := ?_)
  refine ev_bipush (M := T12_init) (pc := 360) dX12_init_360 (k := ?_)
  obtain ⟨hn, H133⟩ := g_e H132
  clear H132
  refine ev_mono (mc := 1 + (36)) (ms := (48 : Int).toNat + (56742)) (by omega) (by show 48 + _ ≤ _; omega) ?_
  obtain ⟨h118, eh118, H134⟩ := lt_e H133
  clear H133
  refine ev_newI (M := T12_init) (pc := 362) (k := 149) (mc := 36) (ms := 56742) (len := 48) 0 (j_wn0 _ (by decide) hn) eh118 (by decide) (by decide) dX12_init_362 (K := ?_)
  obtain ⟨h119, eh119, H135⟩ := lt_e H134
  clear H134
  refine ev_putRF (M := T12_init) (pc := 364) (t := 149) j_ok0 (some 0) fl_X12_143 eh119 (hdg := dX12_init_364) (K := ?_)
  refine ev_aload_n (M := T12_init) (pc := 367) 0 dX12_init_367 (k := ?_)
  refine ev_bipush (M := T12_init) (pc := 368) dX12_init_368 (k := ?_)
  obtain ⟨hn, H136⟩ := g_e H135
  clear H135
  refine ev_mono (mc := 1 + (35)) (ms := (6 : Int).toNat + (56736)) (by omega) (by show 6 + _ ≤ _; omega) ?_
  obtain ⟨h120, eh120, H137⟩ := lt_e H136
  clear H136
  refine ev_newI (M := T12_init) (pc := 370) (k := 150) (mc := 35) (ms := 56736) (len := 6) 0 (j_wn0 _ (by decide) hn) eh120 (by decide) (by decide) dX12_init_370 (K := ?_)
  obtain ⟨h121, eh121, H138⟩ := lt_e H137
  clear H137
  refine ev_putRF (M := T12_init) (pc := 372) (t := 150) j_ok0 (some 0) fl_X12_146 eh121 (hdg := dX12_init_372) (K := ?_)
  refine ev_aload_n (M := T12_init) (pc := 375) 0 dX12_init_375 (k := ?_)
  refine ev_bipush (M := T12_init) (pc := 376) dX12_init_376 (k := ?_)
  obtain ⟨hn, H139⟩ := g_e H138
  clear H138
  refine ev_mono (mc := 1 + (34)) (ms := (6 : Int).toNat + (56730)) (by omega) (by show 6 + _ ≤ _; omega) ?_
  obtain ⟨h122, eh122, H140⟩ := lt_e H139
  clear H139
  refine ev_newI (M := T12_init) (pc := 378) (k := 151) (mc := 34) (ms := 56730) (len := 6) 0 (j_wn0 _ (by decide) hn) eh122 (by decide) (by decide) dX12_init_378 (K := ?_)
  obtain ⟨h123, eh123, H141⟩ := lt_e H140
  clear H140
  refine ev_putRF (M := T12_init) (pc := 380) (t := 151) j_ok0 (some 0) fl_X12_149 eh123 (hdg := dX12_init_380) (K := ?_)
  refine ev_aload_n (M := T12_init) (pc := 383) 0 dX12_init_383 (k := ?_)
  refine ev_sipush (M := T12_init) (pc := 384) dX12_init_384 (k := ?_)
  obtain ⟨hn, H142⟩ := g_e H141
  clear H141
  refine ev_mono (mc := 1 + (33)) (ms := (480 : Int).toNat + (56250)) (by omega) (by show 480 + _ ≤ _; omega) ?_
  obtain ⟨h124, eh124, H143⟩ := lt_e H142
  clear H142
  refine ev_newI (M := T12_init) (pc := 387) (k := 152) (mc := 33) (ms := 56250) (len := 480) 0 (j_wn0 _ (by decide) hn) eh124 (by decide) (by decide) dX12_init_387 (K := ?_)
  obtain ⟨h125, eh125, H144⟩ := lt_e H143
  clear H143
  refine ev_putRF (M := T12_init) (pc := 389) (t := 152) j_ok0 (some 0) fl_X12_152 eh125 (hdg := dX12_init_389) (K := ?_)
  refine ev_aload_n (M := T12_init) (pc := 392) 0 dX12_init_392 (k := ?_)
  refine ev_bipush (M := T12_init) (pc := 393) dX12_init_393 (k := ?_)
  obtain ⟨hn, H145⟩ := g_e H144
  clear H144
  refine ev_mono (mc := 1 + (32)) (ms := (6 : Int).toNat + (56244)) (by omega) (by show 6 + _ ≤ _; omega) ?_
  obtain ⟨h126, eh126, H146⟩ := lt_e H145
  clear H145
  refine ev_newI (M := T12_init) (pc := 395) (k := 153) (mc := 32) (ms := 56244) (len := 6) 0 (j_wn0 _ (by decide) hn) eh126 (by decide) (by decide) dX12_init_395 (K := ?_)
  obtain ⟨h127, eh127, H147⟩ := lt_e H146
  clear H146
  refine ev_putRF (M := T12_init) (pc := 397) (t := 153) j_ok0 (some 0) fl_X12_155 eh127 (hdg := dX12_init_397) (K := ?_)
  refine ev_aload_n (M := T12_init) (pc := 400) 0 dX12_init_400 (k := ?_)
  refine ev_bipush (M := T12_init) (pc := 401) dX12_init_401 (k := ?_)
  obtain ⟨hn, H148⟩ := g_e H147
  clear H147
  refine ev_mono (mc := 1 + (31)) (ms := (32 : Int).toNat + (56212)) (by omega) (by show 32 + _ ≤ _; omega) ?_
  obtain ⟨h128, eh128, H149⟩ := lt_e H148
  clear H148
  refine ev_newI (M := T12_init) (pc := 403) (k := 154) (mc := 31) (ms := 56212) (len := 32) 0 (j_wn0 _ (by decide) hn) eh128 (by decide) (by decide) dX12_init_403 (K := ?_)
  obtain ⟨h129, eh129, H150⟩ := lt_e H149
  clear H149
  refine ev_putRF (M := T12_init) (pc := 405) (t := 154) j_ok0 (some 0) fl_X12_158 eh129 (hdg := dX12_init_405) (K := ?_)
  refine ev_aload_n (M := T12_init) (pc := 408) 0 dX12_init_408 (k := ?_)
  refine ev_bipush (M := T12_init) (pc := 409) dX12_init_409 (k := ?_)
  obtain ⟨hn, H151⟩ := g_e H150
  clear H150
  refine ev_mono (mc := 1 + (30)) (ms := (32 : Int).toNat + (56180)) (by omega) (by show 32 + _ ≤ _; omega) ?_
  obtain ⟨h130, eh130, H152⟩ := lt_e H151
  clear H151
  refine ev_newI (M := T12_init) (pc := 411) (k := 155) (mc := 30) (ms := 56180) (len := 32) 0 (j_wn0 _ (by decide) hn) eh130 (by decide) (by decide) dX12_init_411 (K := ?_)
  obtain ⟨h131, eh131, H153⟩ := lt_e H152
  clear H152
  refine ev_putRF (M := T12_init) (pc := 413) (t := 155) j_ok0 (some 0) fl_X12_161 eh131 (hdg := dX12_init_413) (K := ?_)
  refine ev_aload_n (M := T12_init) (pc := 416) 0 dX12_init_416 (k := ?_)
  refine ev_bipush (M := T12_init) (pc := 417) dX12_init_417 (k := ?_)
  obtain ⟨hn, H154⟩ := g_e H153
  clear H153
  refine ev_mono (mc := 1 + (29)) (ms := (20 : Int).toNat + (56160)) (by omega) (by show 20 + _ ≤ _; omega) ?_
  obtain ⟨h132, eh132, H155⟩ := lt_e H154
  clear H154
  refine ev_newI (M := T12_init) (pc := 419) (k := 156) (mc := 29) (ms := 56160) (len := 20) 0 (j_wn0 _ (by decide) hn) eh132 (by decide) (by decide) dX12_init_419 (K := ?_)
  obtain ⟨h133, eh133, H156⟩ := lt_e H155
  clear H155
  refine ev_putRF (M := T12_init) (pc := 421) (t := 156) j_ok0 (some 0) fl_X12_164 eh133 (hdg := dX12_init_421) (K := ?_)
  refine ev_aload_n (M := T12_init) (pc := 424) 0 dX12_init_424 (k := ?_)
  refine ev_sipush (M := T12_init) (pc := 425) dX12_init_425 (k := ?_)
  obtain ⟨hn, H157⟩ := g_e H156
  clear H156
  refine ev_mono (mc := 1 + (28)) (ms := (8192 : Int).toNat + (47968)) (by omega) (by show 8192 + _ ≤ _; omega) ?_
  obtain ⟨h134, eh134, H158⟩ := lt_e H157
  clear H157
  refine ev_newI (M := T12_init) (pc := 428) (k := 158) (mc := 28) (ms := 47968) (len := 8192) 0 (j_wn0 _ (by decide) hn) eh134 (by decide) (by decide) dX12_init_428 (K := ?_)
  obtain ⟨h135, eh135, H159⟩ := lt_e H158
  clear H158
  refine ev_putRF (M := T12_init) (pc := 430) (t := 158) j_ok0 (some 0) fl_X12_167 eh135 (hdg := dX12_init_430) (K := ?_)
  refine ev_aload_n (M := T12_init) (pc := 433) 0 dX12_init_433 (k := ?_)
  refine ev_sipush (M := T12_init) (pc := 434) dX12_init_434 (k := ?_)
  obtain ⟨hn, H160⟩ := g_e H159
  clear H159
  refine ev_mono (mc := 1 + (27)) (ms := (512 : Int).toNat + (47456)) (by omega) (by show 512 + _ ≤ _; omega) ?_
  obtain ⟨h136, eh136, H161⟩ := lt_e H160
  clear H160
  refine ev_newI (M := T12_init) (pc := 437) (k := 159) (mc := 27) (ms := 47456) (len := 512) 0 (j_wn0 _ (by decide) hn) eh136 (by decide) (by decide) dX12_init_437 (K := ?_)
  obtain ⟨h137, eh137, H162⟩ := lt_e H161
  clear H161
  refine ev_putRF (M := T12_init) (pc := 439) (t := 159) j_ok0 (some 0) fl_X12_170 eh137 (hdg := dX12_init_439) (K := ?_)
  refine ev_aload_n (M := T12_init) (pc := 442) 0 dX12_init_442 (k := ?_)
  refine ev_iconst (M := T12_init) (pc := 443) dX12_init_443 (k := ?_)
  obtain ⟨hn, H163⟩ := g_e H162
  clear H162
  refine ev_mono (mc := 1 + (26)) (ms := (2 : Int).toNat + (47454)) (by omega) (by show 2 + _ ≤ _; omega) ?_
  obtain ⟨h138, eh138, H164⟩ := lt_e H163
  clear H163
  refine ev_newI (M := T12_init) (pc := 444) (k := 160) (mc := 26) (ms := 47454) (len := 2) 0 (j_wn0 _ (by decide) hn) eh138 (by decide) (by decide) dX12_init_444 (K := ?_)
  obtain ⟨h139, eh139, H165⟩ := lt_e H164
  clear H164
  refine ev_putRF (M := T12_init) (pc := 446) (t := 160) j_ok0 (some 0) fl_X12_173 eh139 (hdg := dX12_init_446) (K := ?_)
  refine ev_aload_n (M := T12_init) (pc := 449) 0 dX12_init_449 (k := ?_)
  refine ev_iconst (M := T12_init) (pc := 450) dX12_init_450 (k := ?_)
  obtain ⟨hn, H166⟩ := g_e H165
  clear H165
  refine ev_mono (mc := 1 + (25)) (ms := (2 : Int).toNat + (47452)) (by omega) (by show 2 + _ ≤ _; omega) ?_
  obtain ⟨h140, eh140, H167⟩ := lt_e H166
  clear H166
  refine ev_newI (M := T12_init) (pc := 451) (k := 161) (mc := 25) (ms := 47452) (len := 2) 0 (j_wn0 _ (by decide) hn) eh140 (by decide) (by decide) dX12_init_451 (K := ?_)
  obtain ⟨h141, eh141, H168⟩ := lt_e H167
  clear H167
  refine ev_putRF (M := T12_init) (pc := 453) (t := 161) j_ok0 (some 0) fl_X12_176 eh141 (hdg := dX12_init_453) (K := ?_)
  refine ev_aload_n (M := T12_init) (pc := 456) 0 dX12_init_456 (k := ?_)
  refine ev_iconst (M := T12_init) (pc := 457) dX12_init_457 (k := ?_)
  obtain ⟨hn, H169⟩ := g_e H168
  clear H168
  refine ev_mono (mc := 1 + (24)) (ms := (2 : Int).toNat + (47450)) (by omega) (by show 2 + _ ≤ _; omega) ?_
  obtain ⟨h142, eh142, H170⟩ := lt_e H169
  clear H169
  refine ev_newI (M := T12_init) (pc := 458) (k := 162) (mc := 24) (ms := 47450) (len := 2) 0 (j_wn0 _ (by decide) hn) eh142 (by decide) (by decide) dX12_init_458 (K := ?_)
  obtain ⟨h143, eh143, H171⟩ := lt_e H170
  clear H170
  refine ev_putRF (M := T12_init) (pc := 460) (t := 162) j_ok0 (some 0) fl_X12_179 eh143 (hdg := dX12_init_460) (K := ?_)
  refine ev_aload_n (M := T12_init) (pc := 463) 0 dX12_init_463 (k := ?_)
  refine ev_iconst (M := T12_init) (pc := 464) dX12_init_464 (k := ?_)
  obtain ⟨hn, H172⟩ := g_e H171
  clear H171
  refine ev_mono (mc := 1 + (23)) (ms := (2 : Int).toNat + (47448)) (by omega) (by show 2 + _ ≤ _; omega) ?_
  obtain ⟨h144, eh144, H173⟩ := lt_e H172
  clear H172
  refine ev_newI (M := T12_init) (pc := 465) (k := 163) (mc := 23) (ms := 47448) (len := 2) 0 (j_wn0 _ (by decide) hn) eh144 (by decide) (by decide) dX12_init_465 (K := ?_)
  obtain ⟨h145, eh145, H174⟩ := lt_e H173
  clear H173
  refine ev_putRF (M := T12_init) (pc := 467) (t := 163) j_ok0 (some 0) fl_X12_182 eh145 (hdg := dX12_init_467) (K := ?_)
  refine ev_aload_n (M := T12_init) (pc := 470) 0 dX12_init_470 (k := ?_)
  refine ev_iconst (M := T12_init) (pc := 471) dX12_init_471 (k := ?_)
  obtain ⟨hn, H175⟩ := g_e H174
  clear H174
  refine ev_mono (mc := 1 + (22)) (ms := (2 : Int).toNat + (47446)) (by omega) (by show 2 + _ ≤ _; omega) ?_
  obtain ⟨h146, eh146, H176⟩ := lt_e H175
  clear H175
  refine ev_newI (M := T12_init) (pc := 472) (k := 164) (mc := 22) (ms := 47446) (len := 2) 0 (j_wn0 _ (by decide) hn) eh146 (by decide) (by decide) dX12_init_472 (K := ?_)
  obtain ⟨h147, eh147, H177⟩ := lt_e H176
  clear H176
  refine ev_putRF (M := T12_init) (pc := 474) (t := 164) j_ok0 (some 0) fl_X12_185 eh147 (hdg := dX12_init_474) (K := ?_)
  refine ev_aload_n (M := T12_init) (pc := 477) 0 dX12_init_477 (k := ?_)
  refine ev_iconst (M := T12_init) (pc := 478) dX12_init_478 (k := ?_)
  obtain ⟨hn, H178⟩ := g_e H177
  clear H177
  refine ev_mono (mc := 1 + (21)) (ms := (2 : Int).toNat + (47444)) (by omega) (by show 2 + _ ≤ _; omega) ?_
  obtain ⟨h148, eh148, H179⟩ := lt_e H178
  clear H178
  refine ev_newI (M := T12_init) (pc := 479) (k := 165) (mc := 21) (ms := 47444) (len := 2) 0 (j_wn0 _ (by decide) hn) eh148 (by decide) (by decide) dX12_init_479 (K := ?_)
  obtain ⟨h149, eh149, H180⟩ := lt_e H179
  clear H179
  refine ev_putRF (M := T12_init) (pc := 481) (t := 165) j_ok0 (some 0) fl_X12_188 eh149 (hdg := dX12_init_481) (K := ?_)
  refine ev_aload_n (M := T12_init) (pc := 484) 0 dX12_init_484 (k := ?_)
  refine ev_iconst (M := T12_init) (pc := 485) dX12_init_485 (k := ?_)
  obtain ⟨hn, H181⟩ := g_e H180
  clear H180
  refine ev_mono (mc := 1 + (20)) (ms := (2 : Int).toNat + (47442)) (by omega) (by show 2 + _ ≤ _; omega) ?_
  obtain ⟨h150, eh150, H182⟩ := lt_e H181
  clear H181
  refine ev_newI (M := T12_init) (pc := 486) (k := 166) (mc := 20) (ms := 47442) (len := 2) 0 (j_wn0 _ (by decide) hn) eh150 (by decide) (by decide) dX12_init_486 (K := ?_)
  obtain ⟨h151, eh151, H183⟩ := lt_e H182
  clear H182
  refine ev_putRF (M := T12_init) (pc := 488) (t := 166) j_ok0 (some 0) fl_X12_191 eh151 (hdg := dX12_init_488) (K := ?_)
  refine ev_aload_n (M := T12_init) (pc := 491) 0 dX12_init_491 (k := ?_)
  refine ev_iconst (M := T12_init) (pc := 492) dX12_init_492 (k := ?_)
  obtain ⟨hn, H184⟩ := g_e H183
  clear H183
  refine ev_mono (mc := 1 + (19)) (ms := (2 : Int).toNat + (47440)) (by omega) (by show 2 + _ ≤ _; omega) ?_
  obtain ⟨h152, eh152, H185⟩ := lt_e H184
  clear H184
  refine ev_newI (M := T12_init) (pc := 493) (k := 167) (mc := 19) (ms := 47440) (len := 2) 0 (j_wn0 _ (by decide) hn) eh152 (by decide) (by decide) dX12_init_493 (K := ?_)
  obtain ⟨h153, eh153, H186⟩ := lt_e H185
  clear H185
  refine ev_putRF (M := T12_init) (pc := 495) (t := 167) j_ok0 (some 0) fl_X12_194 eh153 (hdg := dX12_init_495) (K := ?_)
  refine ev_aload_n (M := T12_init) (pc := 498) 0 dX12_init_498 (k := ?_)
  refine ev_bipush (M := T12_init) (pc := 499) dX12_init_499 (k := ?_)
  obtain ⟨hn, H187⟩ := g_e H186
  clear H186
  refine ev_mono (mc := 1 + (18)) (ms := (64 : Int).toNat + (47376)) (by omega) (by show 64 + _ ≤ _; omega) ?_
  obtain ⟨h154, eh154, H188⟩ := lt_e H187
  clear H187
  refine ev_newI (M := T12_init) (pc := 501) (k := 168) (mc := 18) (ms := 47376) (len := 64) 0 (j_wn0 _ (by decide) hn) eh154 (by decide) (by decide) dX12_init_501 (K := ?_)
  obtain ⟨h155, eh155, H189⟩ := lt_e H188
  clear H188
  refine ev_putRF (M := T12_init) (pc := 503) (t := 168) j_ok0 (some 0) fl_X12_197 eh155 (hdg := dX12_init_503) (K := ?_)
  refine ev_aload_n (M := T12_init) (pc := 506) 0 dX12_init_506 (k := ?_)
  refine ev_sipush (M := T12_init) (pc := 507) dX12_init_507 (k := ?_)
  obtain ⟨hn, H190⟩ := g_e H189
  clear H189
  refine ev_mono (mc := 1 + (17)) (ms := (320 : Int).toNat + (47056)) (by omega) (by show 320 + _ ≤ _; omega) ?_
  obtain ⟨h156, eh156, H191⟩ := lt_e H190
  clear H190
  refine ev_newI (M := T12_init) (pc := 510) (k := 169) (mc := 17) (ms := 47056) (len := 320) 0 (j_wn0 _ (by decide) hn) eh156 (by decide) (by decide) dX12_init_510 (K := ?_)
  obtain ⟨h157, eh157, H192⟩ := lt_e H191
  clear H191
  refine ev_putRF (M := T12_init) (pc := 512) (t := 169) j_ok0 (some 0) fl_X12_200 eh157 (hdg := dX12_init_512) (K := ?_)
  refine ev_aload_n (M := T12_init) (pc := 515) 0 dX12_init_515 (k := ?_)
  refine ev_ldc (M := T12_init) (pc := 516) (n := 40960) ct_X12_203 dX12_init_516 (hv := cv_X12_203) (k := ?_)
  obtain ⟨hn, H193⟩ := g_e H192
  clear H192
  refine ev_mono (mc := 1 + (16)) (ms := (40960 : Int).toNat + (6096)) (by omega) (by show 40960 + _ ≤ _; omega) ?_
  obtain ⟨h158, eh158, H194⟩ := lt_e H193
  clear H193
  refine ev_newI (M := T12_init) (pc := 518) (k := 171) (mc := 16) (ms := 6096) (len := 40960) 0 (j_wn0 _ (by decide) hn) eh158 (by decide) (by decide) dX12_init_518 (K := ?_)
  obtain ⟨h159, eh159, H195⟩ := lt_e H194
  clear H194
  refine ev_putRF (M := T12_init) (pc := 520) (t := 171) j_ok0 (some 0) fl_X12_204 eh159 (hdg := dX12_init_520) (K := ?_)
  refine ev_aload_n (M := T12_init) (pc := 523) 0 dX12_init_523 (k := ?_)
  refine ev_sipush (M := T12_init) (pc := 524) dX12_init_524 (k := ?_)
  obtain ⟨hn, H196⟩ := g_e H195
  clear H195
  refine ev_mono (mc := 1 + (15)) (ms := (128 : Int).toNat + (5968)) (by omega) (by show 128 + _ ≤ _; omega) ?_
  obtain ⟨h160, eh160, H197⟩ := lt_e H196
  clear H196
  refine ev_newI (M := T12_init) (pc := 527) (k := 172) (mc := 15) (ms := 5968) (len := 128) 0 (j_wn0 _ (by decide) hn) eh160 (by decide) (by decide) dX12_init_527 (K := ?_)
  obtain ⟨h161, eh161, H198⟩ := lt_e H197
  clear H197
  refine ev_putRF (M := T12_init) (pc := 529) (t := 172) j_ok0 (some 0) fl_X12_207 eh161 (hdg := dX12_init_529) (K := ?_)
  refine ev_aload_n (M := T12_init) (pc := 532) 0 dX12_init_532 (k := ?_)
  refine ev_sipush (M := T12_init) (pc := 533) dX12_init_533 (k := ?_)
  obtain ⟨hn, H199⟩ := g_e H198
  clear H198
  refine ev_mono (mc := 1 + (14)) (ms := (2560 : Int).toNat + (3408)) (by omega) (by show 2560 + _ ≤ _; omega) ?_
  obtain ⟨h162, eh162, H200⟩ := lt_e H199
  clear H199
  refine ev_newI (M := T12_init) (pc := 536) (k := 173) (mc := 14) (ms := 3408) (len := 2560) 0 (j_wn0 _ (by decide) hn) eh162 (by decide) (by decide) dX12_init_536 (K := ?_)
  obtain ⟨h163, eh163, H201⟩ := lt_e H200
  clear H200
  refine ev_putRF (M := T12_init) (pc := 538) (t := 173) j_ok0 (some 0) fl_X12_210 eh163 (hdg := dX12_init_538) (K := ?_)
  refine ev_aload_n (M := T12_init) (pc := 541) 0 dX12_init_541 (k := ?_)
  refine ev_bipush (M := T12_init) (pc := 542) dX12_init_542 (k := ?_)
  obtain ⟨hn, H202⟩ := g_e H201
  clear H201
  refine ev_mono (mc := 1 + (13)) (ms := (8 : Int).toNat + (3400)) (by omega) (by show 8 + _ ≤ _; omega) ?_
  obtain ⟨h164, eh164, H203⟩ := lt_e H202
  clear H202
  refine ev_newI (M := T12_init) (pc := 544) (k := 174) (mc := 13) (ms := 3400) (len := 8) 0 (j_wn0 _ (by decide) hn) eh164 (by decide) (by decide) dX12_init_544 (K := ?_)
  obtain ⟨h165, eh165, H204⟩ := lt_e H203
  clear H203
  refine ev_putRF (M := T12_init) (pc := 546) (t := 174) j_ok0 (some 0) fl_X12_213 eh165 (hdg := dX12_init_546) (K := ?_)
  refine ev_aload_n (M := T12_init) (pc := 549) 0 dX12_init_549 (k := ?_)
  refine ev_sipush (M := T12_init) (pc := 550) dX12_init_550 (k := ?_)
  obtain ⟨hn, H205⟩ := g_e H204
  clear H204
  refine ev_mono (mc := 1 + (12)) (ms := (300 : Int).toNat + (3100)) (by omega) (by show 300 + _ ≤ _; omega) ?_
  obtain ⟨h166, eh166, H206⟩ := lt_e H205
  clear H205
  refine ev_newI (M := T12_init) (pc := 553) (k := 176) (mc := 12) (ms := 3100) (len := 300) 0 (j_wn0 _ (by decide) hn) eh166 (by decide) (by decide) dX12_init_553 (K := ?_)
  obtain ⟨h167, eh167, H207⟩ := lt_e H206
  clear H206
  refine ev_putRF (M := T12_init) (pc := 555) (t := 176) j_ok0 (some 0) fl_X12_216 eh167 (hdg := dX12_init_555) (K := ?_)
  refine ev_aload_n (M := T12_init) (pc := 558) 0 dX12_init_558 (k := ?_)
  refine ev_sipush (M := T12_init) (pc := 559) dX12_init_559 (k := ?_)
  obtain ⟨hn, H208⟩ := g_e H207
  clear H207
  refine ev_mono (mc := 1 + (11)) (ms := (300 : Int).toNat + (2800)) (by omega) (by show 300 + _ ≤ _; omega) ?_
  obtain ⟨h168, eh168, H209⟩ := lt_e H208
  clear H208
  refine ev_newI (M := T12_init) (pc := 562) (k := 177) (mc := 11) (ms := 2800) (len := 300) 0 (j_wn0 _ (by decide) hn) eh168 (by decide) (by decide) dX12_init_562 (K := ?_)
  obtain ⟨h169, eh169, H210⟩ := lt_e H209
  clear H209
  refine ev_putRF (M := T12_init) (pc := 564) (t := 177) j_ok0 (some 0) fl_X12_219 eh169 (hdg := dX12_init_564) (K := ?_)
  refine ev_aload_n (M := T12_init) (pc := 567) 0 dX12_init_567 (k := ?_)
  refine ev_sipush (M := T12_init) (pc := 568) dX12_init_568 (k := ?_)
  obtain ⟨hn, H211⟩ := g_e H210
  clear H210
  refine ev_mono (mc := 1 + (10)) (ms := (300 : Int).toNat + (2500)) (by omega) (by show 300 + _ ≤ _; omega) ?_
  obtain ⟨h170, eh170, H212⟩ := lt_e H211
  clear H211
  refine ev_newI (M := T12_init) (pc := 571) (k := 178) (mc := 10) (ms := 2500) (len := 300) 0 (j_wn0 _ (by decide) hn) eh170 (by decide) (by decide) dX12_init_571 (K := ?_)
  obtain ⟨h171, eh171, H213⟩ := lt_e H212
  clear H212
  refine ev_putRF (M := T12_init) (pc := 573) (t := 178) j_ok0 (some 0) fl_X12_222 eh171 (hdg := dX12_init_573) (K := ?_)
  refine ev_aload_n (M := T12_init) (pc := 576) 0 dX12_init_576 (k := ?_)
  refine ev_sipush (M := T12_init) (pc := 577) dX12_init_577 (k := ?_)
  obtain ⟨hn, H214⟩ := g_e H213
  clear H213
  refine ev_mono (mc := 1 + (9)) (ms := (300 : Int).toNat + (2200)) (by omega) (by show 300 + _ ≤ _; omega) ?_
  obtain ⟨h172, eh172, H215⟩ := lt_e H214
  clear H214
  refine ev_newI (M := T12_init) (pc := 580) (k := 180) (mc := 9) (ms := 2200) (len := 300) 0 (j_wn0 _ (by decide) hn) eh172 (by decide) (by decide) dX12_init_580 (K := ?_)
  obtain ⟨h173, eh173, H216⟩ := lt_e H215
  clear H215
  refine ev_putRF (M := T12_init) (pc := 582) (t := 180) j_ok0 (some 0) fl_X12_225 eh173 (hdg := dX12_init_582) (K := ?_)
  refine ev_aload_n (M := T12_init) (pc := 585) 0 dX12_init_585 (k := ?_)
  refine ev_sipush (M := T12_init) (pc := 586) dX12_init_586 (k := ?_)
  obtain ⟨hn, H217⟩ := g_e H216
  clear H216
  refine ev_mono (mc := 1 + (8)) (ms := (300 : Int).toNat + (1900)) (by omega) (by show 300 + _ ≤ _; omega) ?_
  obtain ⟨h174, eh174, H218⟩ := lt_e H217
  clear H217
  refine ev_newI (M := T12_init) (pc := 589) (k := 181) (mc := 8) (ms := 1900) (len := 300) 0 (j_wn0 _ (by decide) hn) eh174 (by decide) (by decide) dX12_init_589 (K := ?_)
  obtain ⟨h175, eh175, H219⟩ := lt_e H218
  clear H218
  refine ev_putRF (M := T12_init) (pc := 591) (t := 181) j_ok0 (some 0) fl_X12_228 eh175 (hdg := dX12_init_591) (K := ?_)
  refine ev_aload_n (M := T12_init) (pc := 594) 0 dX12_init_594 (k := ?_)
  refine ev_sipush (M := T12_init) (pc := 595) dX12_init_595 (k := ?_)
  obtain ⟨hn, H220⟩ := g_e H219
  clear H219
  refine ev_mono (mc := 1 + (7)) (ms := (320 : Int).toNat + (1580)) (by omega) (by show 320 + _ ≤ _; omega) ?_
  obtain ⟨h176, eh176, H221⟩ := lt_e H220
  clear H220
  refine ev_newI (M := T12_init) (pc := 598) (k := 182) (mc := 7) (ms := 1580) (len := 320) 0 (j_wn0 _ (by decide) hn) eh176 (by decide) (by decide) dX12_init_598 (K := ?_)
  obtain ⟨h177, eh177, H222⟩ := lt_e H221
  clear H221
  refine ev_putRF (M := T12_init) (pc := 600) (t := 182) j_ok0 (some 0) fl_X12_231 eh177 (hdg := dX12_init_600) (K := ?_)
  refine ev_aload_n (M := T12_init) (pc := 603) 0 dX12_init_603 (k := ?_)
  refine ev_bipush (M := T12_init) (pc := 604) dX12_init_604 (k := ?_)
  obtain ⟨hn, H223⟩ := g_e H222
  clear H222
  refine ev_mono (mc := 1 + (6)) (ms := (32 : Int).toNat + (1548)) (by omega) (by show 32 + _ ≤ _; omega) ?_
  obtain ⟨h178, eh178, H224⟩ := lt_e H223
  clear H223
  refine ev_newI (M := T12_init) (pc := 606) (k := 184) (mc := 6) (ms := 1548) (len := 32) 0 (j_wn0 _ (by decide) hn) eh178 (by decide) (by decide) dX12_init_606 (K := ?_)
  obtain ⟨h179, eh179, H225⟩ := lt_e H224
  clear H224
  refine ev_putRF (M := T12_init) (pc := 608) (t := 184) j_ok0 (some 0) fl_X12_234 eh179 (hdg := dX12_init_608) (K := ?_)
  refine ev_aload_n (M := T12_init) (pc := 611) 0 dX12_init_611 (k := ?_)
  refine ev_bipush (M := T12_init) (pc := 612) dX12_init_612 (k := ?_)
  obtain ⟨hn, H226⟩ := g_e H225
  clear H225
  refine ev_mono (mc := 1 + (5)) (ms := (32 : Int).toNat + (1516)) (by omega) (by show 32 + _ ≤ _; omega) ?_
  obtain ⟨h180, eh180, H227⟩ := lt_e H226
  clear H226
  refine ev_newI (M := T12_init) (pc := 614) (k := 185) (mc := 5) (ms := 1516) (len := 32) 0 (j_wn0 _ (by decide) hn) eh180 (by decide) (by decide) dX12_init_614 (K := ?_)
  obtain ⟨h181, eh181, H228⟩ := lt_e H227
  clear H227
  refine ev_putRF (M := T12_init) (pc := 616) (t := 185) j_ok0 (some 0) fl_X12_237 eh181 (hdg := dX12_init_616) (K := ?_)
  refine ev_aload_n (M := T12_init) (pc := 619) 0 dX12_init_619 (k := ?_)
  refine ev_iconst (M := T12_init) (pc := 620) dX12_init_620 (k := ?_)
  obtain ⟨hn, H229⟩ := g_e H228
  clear H228
  refine ev_mono (mc := 1 + (4)) (ms := (4 : Int).toNat + (1512)) (by omega) (by show 4 + _ ≤ _; omega) ?_
  obtain ⟨h182, eh182, H230⟩ := lt_e H229
  clear H229
  refine ev_newI (M := T12_init) (pc := 621) (k := 186) (mc := 4) (ms := 1512) (len := 4) 0 (j_wn0 _ (by decide) hn) eh182 (by decide) (by decide) dX12_init_621 (K := ?_)
  obtain ⟨h183, eh183, H231⟩ := lt_e H230
  clear H230
  refine ev_putRF (M := T12_init) (pc := 623) (t := 186) j_ok0 (some 0) fl_X12_240 eh183 (hdg := dX12_init_623) (K := ?_)
  refine ev_aload_n (M := T12_init) (pc := 626) 0 dX12_init_626 (k := ?_)
  refine ev_iconst (M := T12_init) (pc := 627) dX12_init_627 (k := ?_)
  obtain ⟨hn, H232⟩ := g_e H231
  clear H231
  refine ev_mono (mc := 1 + (3)) (ms := (4 : Int).toNat + (1508)) (by omega) (by show 4 + _ ≤ _; omega) ?_
  obtain ⟨h184, eh184, H233⟩ := lt_e H232
  clear H232
  refine ev_newI (M := T12_init) (pc := 628) (k := 187) (mc := 3) (ms := 1508) (len := 4) 0 (j_wn0 _ (by decide) hn) eh184 (by decide) (by decide) dX12_init_628 (K := ?_)
  obtain ⟨h185, eh185, H234⟩ := lt_e H233
  clear H233
  refine ev_putRF (M := T12_init) (pc := 630) (t := 187) j_ok0 (some 0) fl_X12_243 eh185 (hdg := dX12_init_630) (K := ?_)
  refine ev_aload_n (M := T12_init) (pc := 633) 0 dX12_init_633 (k := ?_)
  refine ev_iconst (M := T12_init) (pc := 634) dX12_init_634 (k := ?_)
  obtain ⟨hn, H235⟩ := g_e H234
  clear H234
  refine ev_mono (mc := 1 + (2)) (ms := (4 : Int).toNat + (1504)) (by omega) (by show 4 + _ ≤ _; omega) ?_
  obtain ⟨h186, eh186, H236⟩ := lt_e H235
  clear H235
  refine ev_newI (M := T12_init) (pc := 635) (k := 188) (mc := 2) (ms := 1504) (len := 4) 0 (j_wn0 _ (by decide) hn) eh186 (by decide) (by decide) dX12_init_635 (K := ?_)
  obtain ⟨h187, eh187, H237⟩ := lt_e H236
  clear H236
  refine ev_putRF (M := T12_init) (pc := 637) (t := 188) j_ok0 (some 0) fl_X12_246 eh187 (hdg := dX12_init_637) (K := ?_)
  refine ev_aload_n (M := T12_init) (pc := 640) 0 dX12_init_640 (k := ?_)
  refine ev_iconst (M := T12_init) (pc := 641) dX12_init_641 (k := ?_)
  obtain ⟨hn, H238⟩ := g_e H237
  clear H237
  refine ev_mono (mc := 1 + (1)) (ms := (4 : Int).toNat + (1500)) (by omega) (by show 4 + _ ≤ _; omega) ?_
  obtain ⟨h188, eh188, H239⟩ := lt_e H238
  clear H238
  refine ev_newI (M := T12_init) (pc := 642) (k := 189) (mc := 1) (ms := 1500) (len := 4) 0 (j_wn0 _ (by decide) hn) eh188 (by decide) (by decide) dX12_init_642 (K := ?_)
  obtain ⟨h189, eh189, H240⟩ := lt_e H239
  clear H239
  refine ev_putRF (M := T12_init) (pc := 644) (t := 189) j_ok0 (some 0) fl_X12_249 eh189 (hdg := dX12_init_644) (K := ?_)
  refine ev_aload_n (M := T12_init) (pc := 647) 0 dX12_init_647 (k := ?_)
  refine ev_sipush (M := T12_init) (pc := 648) dX12_init_648 (k := ?_)
  obtain ⟨hn, H241⟩ := g_e H240
  clear H240
  refine ev_mono (mc := 1 + (0)) (ms := (1500 : Int).toNat + (0)) (by omega) (by show 1500 + _ ≤ _; omega) ?_
  obtain ⟨h190, eh190, H242⟩ := lt_e H241
  clear H241
  refine ev_newI (M := T12_init) (pc := 651) (k := 191) (mc := 0) (ms := 0) (len := 1500) 0 (j_wn0 _ (by decide) hn) eh190 (by decide) (by decide) dX12_init_651 (K := ?_)
  obtain ⟨h191, eh191, H243⟩ := lt_e H242
  clear H242
  refine ev_putRF (M := T12_init) (pc := 653) (t := 191) j_ok0 (some 0) fl_X12_252 eh191 (hdg := dX12_init_653) (K := ?_)
  refine ev_aload_n (M := T12_init) (pc := 656) 0 dX12_init_656 (k := ?_)
  refine ev_iload_n (M := T12_init) (pc := 657) 1 dX12_init_657 (k := ?_)
  refine ev_iconst (M := T12_init) (pc := 658) dX12_init_658 (k := ?_)
  refine ev_icmpge (M := T12_init) (pc := 659) 666 dX12_init_659 (kt := fun hc => ?_) (kf := fun hc => ?_)
  · replace H243 := if_pe hc H243
    refine ev_iload_n (M := T12_init) (pc := 666) 1 dX12_init_666 (k := ?_)
    refine ev_bipush (M := T12_init) (pc := 667) dX12_init_667 (k := ?_)
    refine ev_icmple (M := T12_init) (pc := 669) 677 dX12_init_669 (kt := fun hc => ?_) (kf := fun hc => ?_)
    · replace H243 := if_pe hc H243
      refine ev_iload_n (M := T12_init) (pc := 677) 1 dX12_init_677 (k := ?_)
      refine ev_mono (mc := 0) (ms := 0) (by omega) (by omega) ?_
      refine ev_lv [0, 2] [(0, .inr (.inr (some (12, 0)))), (2, .inl (l2))] (k := ?_)
      exact I12_init_678 l2 (some 0) l1 h191 _ H243
    · replace H243 := if_ne hc H243
      refine ev_bipush (M := T12_init) (pc := 672) dX12_init_672 (k := ?_)
      refine ev_goto (M := T12_init) (pc := 674) 678 dX12_init_674 (k := ?_)
      refine ev_mono (mc := 0) (ms := 0) (by omega) (by omega) ?_
      refine ev_lv [0, 2] [(0, .inr (.inr (some (12, 0)))), (2, .inl (l2))] (k := ?_)
      exact I12_init_678 l2 (some 0) 16 h191 _ H243
  · replace H243 := if_ne hc H243
    refine ev_iconst (M := T12_init) (pc := 662) dX12_init_662 (k := ?_)
    refine ev_goto (M := T12_init) (pc := 663) 678 dX12_init_663 (k := ?_)
    refine ev_mono (mc := 0) (ms := 0) (by omega) (by omega) ?_
    refine ev_lv [0, 2] [(0, .inr (.inr (some (12, 0)))), (2, .inl (l2))] (k := ?_)
    exact I12_init_678 l2 (some 0) 1 h191 _ H243
