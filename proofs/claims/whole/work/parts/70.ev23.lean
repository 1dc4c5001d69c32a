-- X12_speaks
abbrev T12_speaks : JT := (RX12, cX12_speaks, 3, none, false)
set_option maxRecDepth 100000 in
set_option maxHeartbeats 4000000 in
theorem E12_speaks_153b (k153 : Int → JM → Option JM) (hk153 : ∀ (l1 : Int) (h : JM) (res : JM), k153 l1 h = some res → Ev j_W1 6 0 0 T12_speaks 153 [(0, .inr (.inr (some (12, 0)))), (1, .inl (l1))] [] h none res) (l1 : Int) (h : JM) (res : JM) (H : F12_speaks_153b k153 l1 h = some res) : Ev j_W1 6 0 0 T12_speaks 153 [(0, .inr (.inr (some (12, 0)))), (1, .inl (l1))] [] h none res := by
  unfold F12_speaks_153b at H
  refine ev_iload_n 1 dX12_speaks_153 (k := ?_)
  refine ev_bipush dX12_speaks_154 (k := ?_)
  refine ev_icmpge 177 dX12_speaks_156 (kt := fun hc => ?_) (kf := fun hc => ?_)
  · replace H := if_pe hc H
    cases H
    exact ev_return dX12_speaks_177
  · replace H := if_ne hc H
    refine ev_aload_n 0 dX12_speaks_159 (k := ?_)
    refine ev_getR (t := 184) (x := some (184, 0)) fl_X12_234 dX12_speaks_160 (hx := ry_12_84 _ _) (K := ?_)
    refine ev_iload_n 1 dX12_speaks_163 (k := ?_)
    refine ev_aload_n 0 dX12_speaks_164 (k := ?_)
    refine ev_getR (t := 185) (x := some (185, 0)) fl_X12_237 dX12_speaks_165 (hx := ry_12_85 _ _) (K := ?_)
    refine ev_iload_n 1 dX12_speaks_168 (k := ?_)
    obtain ⟨⟨hi0, hi1⟩, H1⟩ := g_e H
    clear H
    refine ev_iaload (k := 185) hi0 hi1 dX12_speaks_169 (hc := ac_185) (hlen := ln_185 _ _) (K := ?_)
    obtain ⟨⟨hi0, hi1⟩, H2⟩ := g_e H1
    clear H1
    obtain ⟨h1, eh1, H3⟩ := lt_e H2
    clear H2
    refine ev_iastore (k := 184) j_ok1 hi0 hi1 eh1 dX12_speaks_170 (hc := ac_184) (hlen := ln_184 _ _) (K := ?_)
    refine ev_iinc 1 [(1, .inl (w32 (l1 + 1))), (0, .inr (.inr (some (12, 0))))] dX12_speaks_171 (k := ?_)
    refine ev_goto 153 dX12_speaks_174 (k := ?_)
    refine ev_lv [1, 0] [(0, .inr (.inr (some (12, 0)))), (1, .inl (w32 (l1 + 1)))] (k := ?_)
    exact hk153 (w32 (l1 + 1)) h1 _ H3
theorem E12_speaks_153 (n : Nat) : ∀ (l1 : Int) (h : JM) (res : JM), F12_speaks_153 n l1 h = some res → Ev j_W1 6 0 0 T12_speaks 153 [(0, .inr (.inr (some (12, 0)))), (1, .inl (l1))] [] h none res := by
  induction n with
  | zero =>
    intro l1 h res H
    cases H
  | succ n ih =>
    intro l1 h res H
    exact E12_speaks_153b (F12_speaks_153 n) ih l1 h res H
set_option maxRecDepth 100000 in
set_option maxHeartbeats 4000000 in
theorem E12_speaks_145 (k48 : Int → JM → Option JM) (hk48 : ∀ (l1 : Int) (h : JM) (res : JM), k48 l1 h = some res → Ev j_W1 6 0 0 T12_speaks 48 [(0, .inr (.inr (some (12, 0)))), (1, .inl (l1))] [] h none res) (l1 : Int) (h : JM) (res : JM) (H : F12_speaks_145 k48 l1 h = some res) : Ev j_W1 6 0 0 T12_speaks 145 [(0, .inr (.inr (some (12, 0)))), (1, .inl (l1))] [] h none res := by
  unfold F12_speaks_145 at H
  refine ev_iinc 1 [(1, .inl (w32 (l1 + 1))), (0, .inr (.inr (some (12, 0))))] dX12_speaks_145 (k := ?_)
  refine ev_goto 48 dX12_speaks_148 (k := ?_)
  refine ev_lv [1, 0] [(0, .inr (.inr (some (12, 0)))), (1, .inl (w32 (l1 + 1)))] (k := ?_)
  exact hk48 (w32 (l1 + 1)) h _ H
set_option maxRecDepth 100000 in
set_option maxHeartbeats 4000000 in
theorem E12_speaks_116 (k48 : Int → JM → Option JM) (hk48 : ∀ (l1 : Int) (h : JM) (res : JM), k48 l1 h = some res → Ev j_W1 6 0 0 T12_speaks 48 [(0, .inr (.inr (some (12, 0)))), (1, .inl (l1))] [] h none res) (l1 : Int) (l2 : Int) (s0 : Option Int) (s1 : Int) (s2 : Int) (s3 : Int) (h : JM) (res : JM) (H : F12_speaks_116 k48 l1 l2 s0 s1 s2 s3 h = some res) : Ev j_W1 6 0 0 T12_speaks 116 [(0, .inr (.inr (some (12, 0)))), (1, .inl (l1)), (2, .inl (l2))] [.inl (s3), .inl (s2), .inl (s1), .inr (.inr (Option.map (Prod.mk 12) (s0)))] h none res := by
  unfold F12_speaks_116 at H
  obtain ⟨a2, ea2, H1⟩ := bd_e H
  clear H
  obtain ⟨hz, H2⟩ := g_e H1
  clear H1
  rw [ea2, hz]
  obtain ⟨h3, hq, H3⟩ := bd_e H2
  clear H2
  refine ev_callV (mc := 0) (ms := 0) (st := []) (C12_gets hq) md_X12_gets im_X12_gets se_X12_gets ml_X12_477 dX12_speaks_116 _ (by decide) (K := ?_)
  refine ev_iload_n 2 dX12_speaks_119 (k := ?_)
  refine ev_ifne 145 dX12_speaks_120 (kt := fun hc => ?_) (kf := fun hc => ?_)
  · replace H3 := if_ne hc H3
    refine ev_lv [0, 1] [(0, .inr (.inr (some (12, 0)))), (1, .inl (l1))] (k := ?_)
    exact E12_speaks_145 k48 hk48 l1 h3 _ H3
  · replace H3 := if_pe hc H3
    refine ev_aload_n 0 dX12_speaks_123 (k := ?_)
    refine ev_iload_n 1 dX12_speaks_124 (k := ?_)
    refine ev_aload_n 0 dX12_speaks_125 (k := ?_)
    refine ev_getR (t := 137) (x := some (137, 0)) fl_X12_107 dX12_speaks_126 (hx := ry_12_37 _ _) (K := ?_)
    refine ev_iload_n 1 dX12_speaks_129 (k := ?_)
    obtain ⟨⟨hi0, hi1⟩, H4⟩ := g_e H3
    clear H3
    refine ev_iaload (k := 137) hi0 hi1 dX12_speaks_130 (hc := ac_137) (hlen := ln_137 _ _) (K := ?_)
    refine ev_aload_n 0 dX12_speaks_131 (k := ?_)
    refine ev_iload_n 1 dX12_speaks_132 (k := ?_)
    refine ev_aload_n 0 dX12_speaks_133 (k := ?_)
    refine ev_getR (t := 136) (x := some (136, 0)) fl_X12_104 dX12_speaks_134 (hx := ry_12_36 _ _) (K := ?_)
    refine ev_iload_n 1 dX12_speaks_137 (k := ?_)
    obtain ⟨⟨hi0, hi1⟩, H5⟩ := g_e H4
    clear H4
    refine ev_iaload (k := 136) hi0 hi1 dX12_speaks_138 (hc := ac_136) (hlen := ln_136 _ _) (K := ?_)
    obtain ⟨q4, hq, H6⟩ := bd_e H5
    clear H5
    refine ev_callV (mc := 0) (ms := 0) (st := [.inl (h3.1 137 0 l1), .inl (l1), .inr (.inr (some (12, 0)))]) (C12_given hq) md_X12_given im_X12_given se_X12_given ml_X12_471 dX12_speaks_139 _ (by decide) (K := ?_)
    obtain ⟨h5, hq, H7⟩ := bd_e H6
    clear H6
    refine ev_callV (mc := 0) (ms := 0) (st := []) (C12_gets hq) md_X12_gets im_X12_gets se_X12_gets ml_X12_477 dX12_speaks_142 _ (by decide) (K := ?_)
    refine ev_lv [0, 1] [(0, .inr (.inr (some (12, 0)))), (1, .inl (l1))] (k := ?_)
    exact E12_speaks_145 k48 hk48 l1 h5 _ H7
set_option maxRecDepth 100000 in
set_option maxHeartbeats 4000000 in
theorem E12_speaks_84 (k48 : Int → JM → Option JM) (hk48 : ∀ (l1 : Int) (h : JM) (res : JM), k48 l1 h = some res → Ev j_W1 6 0 0 T12_speaks 48 [(0, .inr (.inr (some (12, 0)))), (1, .inl (l1))] [] h none res) (l1 : Int) (s0 : Int) (h : JM) (res : JM) (H : F12_speaks_84 k48 l1 s0 h = some res) : Ev j_W1 6 0 0 T12_speaks 84 [(0, .inr (.inr (some (12, 0)))), (1, .inl (l1))] [.inl (s0)] h none res := by
  unfold F12_speaks_84 at H
  refine ev_istore_n [(2, .inl (s0)), (0, .inr (.inr (some (12, 0)))), (1, .inl (l1))] dX12_speaks_84 (k := ?_)
  refine ev_aload_n 1 dX12_speaks_85 (k := ?_)
  refine ev_iload_n 2 dX12_speaks_86 (k := ?_)
  refine ev_aload_n 1 dX12_speaks_87 (k := ?_)
  refine ev_getR (t := 136) (x := some (136, 0)) fl_X12_104 dX12_speaks_88 (hx := ry_12_36 _ _) (K := ?_)
  refine ev_iload_n 2 dX12_speaks_91 (k := ?_)
  obtain ⟨⟨hi0, hi1⟩, H1⟩ := g_e H
  clear H
  refine ev_iaload (k := 136) hi0 hi1 dX12_speaks_92 (hc := ac_136) (hlen := ln_136 _ _) (K := ?_)
  refine ev_iload_n 0 dX12_speaks_93 (k := ?_)
  refine ev_ifeq 105 dX12_speaks_94 (kt := fun hc => ?_) (kf := fun hc => ?_)
  · replace H1 := if_pe hc H1
    refine ev_aload_n 1 dX12_speaks_105 (k := ?_)
    refine ev_iload_n 2 dX12_speaks_106 (k := ?_)
    refine ev_aload_n 1 dX12_speaks_107 (k := ?_)
    refine ev_getR (t := 137) (x := some (137, 0)) fl_X12_107 dX12_speaks_108 (hx := ry_12_37 _ _) (K := ?_)
    refine ev_iload_n 2 dX12_speaks_111 (k := ?_)
    obtain ⟨⟨hi0, hi1⟩, H2⟩ := g_e H1
    clear H1
    refine ev_iaload (k := 137) hi0 hi1 dX12_speaks_112 (hc := ac_137) (hlen := ln_137 _ _) (K := ?_)
    obtain ⟨q6, hq, H3⟩ := bd_e H2
    clear H2
    refine ev_callV (mc := 0) (ms := 0) (st := [.inl (h.1 136 0 l1), .inl (l1), .inr (.inr (some (12, 0)))]) (C12_given hq) md_X12_given im_X12_given se_X12_given ml_X12_471 dX12_speaks_113 _ (by decide) (K := ?_)
    refine ev_lv [1, 2, 0] [(0, .inr (.inr (some (12, 0)))), (1, .inl (l1)), (2, .inl (s0))] (k := ?_)
    exact E12_speaks_116 k48 hk48 l1 s0 (some 0) l1 (h.1 136 0 l1) q6.1 q6.2 _ H3
  · replace H1 := if_ne hc H1
    refine ev_aload_n 1 dX12_speaks_97 (k := ?_)
    refine ev_iload_n 2 dX12_speaks_98 (k := ?_)
    obtain ⟨q7, hq, H2⟩ := bd_e H1
    clear H1
    refine ev_callV (mc := 0) (ms := 0) (st := [.inl (h.1 136 0 l1), .inl (l1), .inr (.inr (some (12, 0)))]) (C12_inRoomOthers hq) md_X12_inRoomOthers im_X12_inRoomOthers se_X12_inRoomOthers ml_X12_474 dX12_speaks_99 _ (by decide) (K := ?_)
    refine ev_goto 116 dX12_speaks_102 (k := ?_)
    refine ev_lv [1, 2, 0] [(0, .inr (.inr (some (12, 0)))), (1, .inl (l1)), (2, .inl (s0))] (k := ?_)
    exact E12_speaks_116 k48 hk48 l1 s0 (some 0) l1 (h.1 136 0 l1) q7.1 q7.2 _ H2
set_option maxRecDepth 100000 in
set_option maxHeartbeats 4000000 in
theorem E12_speaks_48b (k48 : Int → JM → Option JM) (hk48 : ∀ (l1 : Int) (h : JM) (res : JM), k48 l1 h = some res → Ev j_W1 6 0 0 T12_speaks 48 [(0, .inr (.inr (some (12, 0)))), (1, .inl (l1))] [] h none res) (l1 : Int) (h : JM) (res : JM) (H : F12_speaks_48b k48 l1 h = some res) : Ev j_W1 6 0 0 T12_speaks 48 [(0, .inr (.inr (some (12, 0)))), (1, .inl (l1))] [] h none res := by
  unfold F12_speaks_48b at H
  refine ev_iload_n 1 dX12_speaks_48 (k := ?_)
  refine ev_bipush dX12_speaks_49 (k := ?_)
  refine ev_icmpge 151 dX12_speaks_51 (kt := fun hc => ?_) (kf := fun hc => ?_)
  · replace H := if_pe hc H
    refine ev_iconst dX12_speaks_151 (k := ?_)
    refine ev_istore_n [(1, .inl (0)), (0, .inr (.inr (some (12, 0))))] dX12_speaks_152 (k := ?_)
    refine ev_lv [1, 0] [(0, .inr (.inr (some (12, 0)))), (1, .inl (0))] (k := ?_)
    exact E12_speaks_153 j_fu 0 h _ H
  · replace H := if_ne hc H
    refine ev_aload_n 0 dX12_speaks_54 (k := ?_)
    refine ev_getR (t := 133) (x := some (133, 0)) fl_X12_95 dX12_speaks_55 (hx := ry_12_33 _ _) (K := ?_)
    refine ev_iload_n 1 dX12_speaks_58 (k := ?_)
    obtain ⟨⟨hi0, hi1⟩, H1⟩ := g_e H
    clear H
    refine ev_iaload (k := 133) hi0 hi1 dX12_speaks_59 (hc := ac_133) (hlen := ln_133 _ _) (K := ?_)
    refine ev_iconst dX12_speaks_60 (k := ?_)
    refine ev_icmpeq 67 dX12_speaks_61 (kt := fun hc => ?_) (kf := fun hc => ?_)
    · replace H1 := if_pe hc H1
      refine ev_aload_n 0 dX12_speaks_67 (k := ?_)
      refine ev_getR (t := 137) (x := some (137, 0)) fl_X12_107 dX12_speaks_68 (hx := ry_12_37 _ _) (K := ?_)
      refine ev_iload_n 1 dX12_speaks_71 (k := ?_)
      obtain ⟨⟨hi0, hi1⟩, H2⟩ := g_e H1
      clear H1
      refine ev_iaload (k := 137) hi0 hi1 dX12_speaks_72 (hc := ac_137) (hlen := ln_137 _ _) (K := ?_)
      refine ev_sipush dX12_speaks_73 (k := ?_)
      refine ev_icmplt 83 dX12_speaks_76 (kt := fun hc => ?_) (kf := fun hc => ?_)
      · replace H2 := if_pe hc H2
        refine ev_iconst dX12_speaks_83 (k := ?_)
        exact E12_speaks_84 k48 hk48 l1 0 h _ H2
      · replace H2 := if_ne hc H2
        refine ev_iconst dX12_speaks_79 (k := ?_)
        refine ev_goto 84 dX12_speaks_80 (k := ?_)
        exact E12_speaks_84 k48 hk48 l1 1 h _ H2
    · replace H1 := if_ne hc H1
      refine ev_goto 145 dX12_speaks_64 (k := ?_)
      exact E12_speaks_145 k48 hk48 l1 h _ H1
theorem E12_speaks_48 (n : Nat) : ∀ (l1 : Int) (h : JM) (res : JM), F12_speaks_48 n l1 h = some res → Ev j_W1 6 0 0 T12_speaks 48 [(0, .inr (.inr (some (12, 0)))), (1, .inl (l1))] [] h none res := by
  induction n with
  | zero =>
    intro l1 h res H
    cases H
  | succ n ih =>
    intro l1 h res H
    exact E12_speaks_48b (F12_speaks_48 n) ih l1 h res H
set_option maxRecDepth 100000 in
set_option maxHeartbeats 4000000 in
theorem E12_speaks_23b (k23 : Int → JM → Option JM) (hk23 : ∀ (l1 : Int) (h : JM) (res : JM), k23 l1 h = some res → Ev j_W1 6 0 0 T12_speaks 23 [(0, .inr (.inr (some (12, 0)))), (1, .inl (l1))] [] h none res) (l1 : Int) (h : JM) (res : JM) (H : F12_speaks_23b k23 l1 h = some res) : Ev j_W1 6 0 0 T12_speaks 23 [(0, .inr (.inr (some (12, 0)))), (1, .inl (l1))] [] h none res := by
  unfold F12_speaks_23b at H
  refine ev_iload_n 1 dX12_speaks_23 (k := ?_)
  refine ev_bipush dX12_speaks_24 (k := ?_)
  refine ev_icmpge 46 dX12_speaks_26 (kt := fun hc => ?_) (kf := fun hc => ?_)
  · replace H := if_pe hc H
    refine ev_iconst dX12_speaks_46 (k := ?_)
    refine ev_istore_n [(1, .inl (0)), (0, .inr (.inr (some (12, 0))))] dX12_speaks_47 (k := ?_)
    refine ev_lv [1, 0] [(0, .inr (.inr (some (12, 0)))), (1, .inl (0))] (k := ?_)
    exact E12_speaks_48 j_fu 0 h _ H
  · replace H := if_ne hc H
    refine ev_aload_n 0 dX12_speaks_29 (k := ?_)
    refine ev_getR (t := 185) (x := some (185, 0)) fl_X12_237 dX12_speaks_30 (hx := ry_12_85 _ _) (K := ?_)
    refine ev_iload_n 1 dX12_speaks_33 (k := ?_)
    refine ev_iconst dX12_speaks_34 (k := ?_)
    refine ev_iconst dX12_speaks_35 (k := ?_)
    obtain ⟨q8, hq, H1⟩ := bd_e H
    clear H
    refine ev_callS (mc := 0) (ms := 0) (st := [.inl (l1), .inr (.inr (some (185, 0)))]) (C12_codeOf hq) md_X12_codeOf ss_X12_codeOf ml_X12_262 dX12_speaks_36 _ (by decide) (K := ?_)
    obtain ⟨⟨hi0, hi1⟩, H2⟩ := g_e H1
    clear H1
    obtain ⟨h9, eh9, H3⟩ := lt_e H2
    clear H2
    refine ev_iastore (k := 185) j_ok1 hi0 hi1 eh9 dX12_speaks_39 (hc := ac_185) (hlen := ln_185 _ _) (K := ?_)
    refine ev_iinc 1 [(1, .inl (w32 (l1 + 1))), (0, .inr (.inr (some (12, 0))))] dX12_speaks_40 (k := ?_)
    refine ev_goto 23 dX12_speaks_43 (k := ?_)
    refine ev_lv [1, 0] [(0, .inr (.inr (some (12, 0)))), (1, .inl (w32 (l1 + 1)))] (k := ?_)
    exact hk23 (w32 (l1 + 1)) h9 _ H3
theorem E12_speaks_23 (n : Nat) : ∀ (l1 : Int) (h : JM) (res : JM), F12_speaks_23 n l1 h = some res → Ev j_W1 6 0 0 T12_speaks 23 [(0, .inr (.inr (some (12, 0)))), (1, .inl (l1))] [] h none res := by
  induction n with
  | zero =>
    intro l1 h res H
    cases H
  | succ n ih =>
    intro l1 h res H
    exact E12_speaks_23b (F12_speaks_23 n) ih l1 h res H
set_option maxRecDepth 100000 in
set_option maxHeartbeats 4000000 in
theorem E12_speaks_2b (k2 : Int → JM → Option JM) (hk2 : ∀ (l1 : Int) (h : JM) (res : JM), k2 l1 h = some res → Ev j_W1 6 0 0 T12_speaks 2 [(0, .inr (.inr (some (12, 0)))), (1, .inl (l1))] [] h none res) (l1 : Int) (h : JM) (res : JM) (H : F12_speaks_2b k2 l1 h = some res) : Ev j_W1 6 0 0 T12_speaks 2 [(0, .inr (.inr (some (12, 0)))), (1, .inl (l1))] [] h none res := by
  unfold F12_speaks_2b at H
  refine ev_iload_n 1 dX12_speaks_2 (k := ?_)
  refine ev_bipush dX12_speaks_3 (k := ?_)
  refine ev_icmpge 21 dX12_speaks_5 (kt := fun hc => ?_) (kf := fun hc => ?_)
  · replace H := if_pe hc H
    refine ev_iconst dX12_speaks_21 (k := ?_)
    refine ev_istore_n [(1, .inl (0)), (0, .inr (.inr (some (12, 0))))] dX12_speaks_22 (k := ?_)
    refine ev_lv [1, 0] [(0, .inr (.inr (some (12, 0)))), (1, .inl (0))] (k := ?_)
    exact E12_speaks_23 j_fu 0 h _ H
  · replace H := if_ne hc H
    refine ev_aload_n 0 dX12_speaks_8 (k := ?_)
    refine ev_getR (t := 131) (x := some (131, 0)) fl_X12_92 dX12_speaks_9 (hx := ry_12_31 _ _) (K := ?_)
    refine ev_iload_n 1 dX12_speaks_12 (k := ?_)
    refine ev_iconst dX12_speaks_13 (k := ?_)
    obtain ⟨⟨hi0, hi1⟩, H1⟩ := g_e H
    clear H
    obtain ⟨h10, eh10, H2⟩ := lt_e H1
    clear H1
    refine ev_iastore (k := 131) j_ok1 hi0 hi1 eh10 dX12_speaks_14 (hc := ac_131) (hlen := ln_131 _ _) (K := ?_)
    refine ev_iinc 1 [(1, .inl (w32 (l1 + 1))), (0, .inr (.inr (some (12, 0))))] dX12_speaks_15 (k := ?_)
    refine ev_goto 2 dX12_speaks_18 (k := ?_)
    refine ev_lv [1, 0] [(0, .inr (.inr (some (12, 0)))), (1, .inl (w32 (l1 + 1)))] (k := ?_)
    exact hk2 (w32 (l1 + 1)) h10 _ H2
theorem E12_speaks_2 (n : Nat) : ∀ (l1 : Int) (h : JM) (res : JM), F12_speaks_2 n l1 h = some res → Ev j_W1 6 0 0 T12_speaks 2 [(0, .inr (.inr (some (12, 0)))), (1, .inl (l1))] [] h none res := by
  induction n with
  | zero =>
    intro l1 h res H
    cases H
  | succ n ih =>
    intro l1 h res H
    exact E12_speaks_2b (F12_speaks_2 n) ih l1 h res H
set_option maxRecDepth 100000 in
set_option maxHeartbeats 4000000 in
theorem C12_speaks {h : JM} {res : JM} (H : F12_speaks h = some res) : Cn j_W1 6 0 0 yX12_speaks cX12_speaks 3 none [.inr (.inr (some (12, 0)))] h none res := by
  refine Cn.by (own := RX12) (b := false) [(0, .inr (.inr (some (12, 0))))] rfl (fun z => by cases z) (by decide +kernel) (K := ?_)
  unfold F12_speaks at H
  refine ev_iconst dX12_speaks_0 (k := ?_)
  refine ev_istore_n [(1, .inl (0)), (0, .inr (.inr (some (12, 0))))] dX12_speaks_1 (k := ?_)
  refine ev_lv [1, 0] [(0, .inr (.inr (some (12, 0)))), (1, .inl (0))] (k := ?_)
  exact E12_speaks_2 j_fu 0 h _ H
-- X12_speech
abbrev T12_speech : JT := (RX12, cX12_speech, 3, some .int, false)
set_option maxRecDepth 100000 in
set_option maxHeartbeats 4000000 in
theorem E12_speech_40 (h : JM) (res : (Int × JM)) (H : F12_speech_40 h = some res) : Ev j_W1 2 0 0 T12_speech 40 [] [] h (some (.inl res.1)) res.2 := by
  unfold F12_speech_40 at H
  refine ev_bipush dX12_speech_40 (k := ?_)
  cases H
  exact ev_ireturn dX12_speech_42
set_option maxRecDepth 100000 in
set_option maxHeartbeats 4000000 in
theorem C12_speech {l1 : Int} {l2 : Int} {h : JM} {res : (Int × JM)} (H : F12_speech l1 l2 h = some res) : Cn j_W1 2 0 0 yX12_speech cX12_speech 3 (some .int) [.inr (.inr (some (12, 0))), .inl (l1), .inl (l2)] h (some (.inl res.1)) res.2 := by
  refine Cn.by (own := RX12) (b := false) [(0, .inr (.inr (some (12, 0)))), (1, .inl (l1)), (2, .inl (l2))] rfl (fun z => by cases z) (by decide +kernel) (K := ?_)
  unfold F12_speech at H
  refine ev_iload_n 1 dX12_speech_0 (k := ?_)
  refine ev_i2l dX12_speech_1 (k := ?_)
  refine ev_lconst (v := 0) dX12_speech_2 (k := ?_)
  refine ev_lconst (v := 1) dX12_speech_3 (k := ?_)
  obtain ⟨q1, hq, H1⟩ := bd_e H
  clear H
  refine ev_callS (mc := 0) (ms := 0) (st := []) (C12_in hq) md_X12_in ss_X12_in ml_X12_268 dX12_speech_4 _ (by decide) (K := ?_)
  refine ev_ifeq 40 dX12_speech_7 (kt := fun hc => ?_) (kf := fun hc => ?_)
  · replace H1 := if_pe hc H1
    refine ev_lv [] [] (k := ?_)
    exact E12_speech_40 q1.2 _ H1
  · replace H1 := if_ne hc H1
    refine ev_iload_n 2 dX12_speech_10 (k := ?_)
    refine ev_i2l dX12_speech_11 (k := ?_)
    refine ev_lconst (v := 0) dX12_speech_12 (k := ?_)
    refine ev_aload_n 0 dX12_speech_13 (k := ?_)
    refine ev_getI (x := q1.2.1 12 0 0) fl_X12_255 dX12_speech_14 (K := ?_)
    refine ev_iconst dX12_speech_17 (k := ?_)
    refine ev_isub dX12_speech_18 (k := ?_)
    refine ev_i2l dX12_speech_19 (k := ?_)
    obtain ⟨q2, hq, H2⟩ := bd_e H1
    clear H1
    refine ev_callS (mc := 0) (ms := 0) (st := []) (C12_in hq) md_X12_in ss_X12_in ml_X12_268 dX12_speech_20 _ (by decide) (K := ?_)
    refine ev_ifeq 40 dX12_speech_23 (kt := fun hc => ?_) (kf := fun hc => ?_)
    · replace H2 := if_pe hc H2
      refine ev_lv [] [] (k := ?_)
      exact E12_speech_40 q2.2 _ H2
    · replace H2 := if_ne hc H2
      refine ev_aload_n 0 dX12_speech_26 (k := ?_)
      refine ev_getR (t := 184) (x := some (184, 0)) fl_X12_234 dX12_speech_27 (hx := ry_12_84 _ _) (K := ?_)
      refine ev_bipush dX12_speech_30 (k := ?_)
      refine ev_iload_n 1 dX12_speech_32 (k := ?_)
      refine ev_imul dX12_speech_33 (k := ?_)
      refine ev_iload_n 2 dX12_speech_34 (k := ?_)
      refine ev_iadd dX12_speech_35 (k := ?_)
      obtain ⟨⟨hi0, hi1⟩, H3⟩ := g_e H2
      clear H2
      refine ev_iaload (k := 184) hi0 hi1 dX12_speech_36 (hc := ac_184) (hlen := ln_184 _ _) (K := ?_)
      refine ev_goto 42 dX12_speech_37 (k := ?_)
      cases H3
      exact ev_ireturn dX12_speech_42
-- X12_spoil
abbrev T12_spoil : JT := (RX12, cX12_spoil, 6, some .int, false)
set_option maxRecDepth 100000 in
set_option maxHeartbeats 4000000 in
theorem E12_spoil_124 (k53 : Int → Int → Int → Int → Int → JM → Option (Int × JM)) (hk53 : ∀ (l1 : Int) (l2 : Int) (l3 : Int) (l4 : Int) (l5 : Int) (h : JM) (res : (Int × JM)), k53 l1 l2 l3 l4 l5 h = some res → Ev j_W1 2 0 0 T12_spoil 53 [(0, .inr (.inr (some (12, 0)))), (1, .inl (l1)), (2, .inl (l2)), (3, .inl (l3)), (4, .inl (l4)), (5, .inl (l5))] [] h (some (.inl res.1)) res.2) (l1 : Int) (l2 : Int) (l3 : Int) (l4 : Int) (l5 : Int) (h : JM) (res : (Int × JM)) (H : F12_spoil_124 k53 l1 l2 l3 l4 l5 h = some res) : Ev j_W1 2 0 0 T12_spoil 124 [(0, .inr (.inr (some (12, 0)))), (1, .inl (l1)), (2, .inl (l2)), (3, .inl (l3)), (4, .inl (l4)), (5, .inl (l5))] [] h (some (.inl res.1)) res.2 := by
  unfold F12_spoil_124 at H
  refine ev_iinc 5 [(5, .inl (w32 (l5 + 1))), (0, .inr (.inr (some (12, 0)))), (1, .inl (l1)), (2, .inl (l2)), (3, .inl (l3)), (4, .inl (l4))] dX12_spoil_124 (k := ?_)
  refine ev_goto 53 dX12_spoil_127 (k := ?_)
  refine ev_lv [1, 2, 3, 4, 5, 0] [(0, .inr (.inr (some (12, 0)))), (1, .inl (l1)), (2, .inl (l2)), (3, .inl (l3)), (4, .inl (l4)), (5, .inl (w32 (l5 + 1)))] (k := ?_)
  exact hk53 l1 l2 l3 l4 (w32 (l5 + 1)) h _ H
set_option maxRecDepth 100000 in
set_option maxHeartbeats 4000000 in
theorem E12_spoil_53b (k53 : Int → Int → Int → Int → Int → JM → Option (Int × JM)) (hk53 : ∀ (l1 : Int) (l2 : Int) (l3 : Int) (l4 : Int) (l5 : Int) (h : JM) (res : (Int × JM)), k53 l1 l2 l3 l4 l5 h = some res → Ev j_W1 2 0 0 T12_spoil 53 [(0, .inr (.inr (some (12, 0)))), (1, .inl (l1)), (2, .inl (l2)), (3, .inl (l3)), (4, .inl (l4)), (5, .inl (l5))] [] h (some (.inl res.1)) res.2) (l1 : Int) (l2 : Int) (l3 : Int) (l4 : Int) (l5 : Int) (h : JM) (res : (Int × JM)) (H : F12_spoil_53b k53 l1 l2 l3 l4 l5 h = some res) : Ev j_W1 2 0 0 T12_spoil 53 [(0, .inr (.inr (some (12, 0)))), (1, .inl (l1)), (2, .inl (l2)), (3, .inl (l3)), (4, .inl (l4)), (5, .inl (l5))] [] h (some (.inl res.1)) res.2 := by
  unfold F12_spoil_53b at H
  refine ev_iload 5 dX12_spoil_53 (k := ?_)
  refine ev_aload_n 0 dX12_spoil_55 (k := ?_)
  refine ev_getI (x := h.1 12 0 75) fl_X12_422 dX12_spoil_56 (K := ?_)
  refine ev_icmpge 130 dX12_spoil_59 (kt := fun hc => ?_) (kf := fun hc => ?_)
  · replace H := if_pe hc H
    refine ev_aload_n 0 dX12_spoil_130 (k := ?_)
    refine ev_iload 4 dX12_spoil_131 (k := ?_)
    obtain ⟨h1, eh1, H1⟩ := lt_e H
    clear H
    refine ev_putI j_ok1 fl_X12_422 eh1 dX12_spoil_133 (K := ?_)
    refine ev_aload_n 0 dX12_spoil_136 (k := ?_)
    refine ev_getI (x := h1.1 12 0 75) fl_X12_422 dX12_spoil_137 (K := ?_)
    refine ev_sipush dX12_spoil_140 (k := ?_)
    refine ev_icmpne 149 dX12_spoil_143 (kt := fun hc => ?_) (kf := fun hc => ?_)
    · replace H1 := if_ne hc H1
      refine ev_aload_n 0 dX12_spoil_149 (k := ?_)
      refine ev_getR (t := 176) (x := some (176, 0)) fl_X12_216 dX12_spoil_150 (hx := ry_12_76 _ _) (K := ?_)
      refine ev_aload_n 0 dX12_spoil_153 (k := ?_)
      refine ev_getI (x := h1.1 12 0 75) fl_X12_422 dX12_spoil_154 (K := ?_)
      refine ev_iload_n 1 dX12_spoil_157 (k := ?_)
      obtain ⟨⟨hi0, hi1⟩, H2⟩ := g_e H1
      clear H1
      obtain ⟨h2, eh2, H3⟩ := lt_e H2
      clear H2
      refine ev_iastore (k := 176) j_ok1 hi0 hi1 eh2 dX12_spoil_158 (hc := ac_176) (hlen := ln_176 _ _) (K := ?_)
      refine ev_aload_n 0 dX12_spoil_159 (k := ?_)
      refine ev_getR (t := 177) (x := some (177, 0)) fl_X12_219 dX12_spoil_160 (hx := ry_12_77 _ _) (K := ?_)
      refine ev_aload_n 0 dX12_spoil_163 (k := ?_)
      refine ev_getI (x := h2.1 12 0 75) fl_X12_422 dX12_spoil_164 (K := ?_)
      refine ev_iload_n 2 dX12_spoil_167 (k := ?_)
      obtain ⟨⟨hi0, hi1⟩, H4⟩ := g_e H3
      clear H3
      obtain ⟨h3, eh3, H5⟩ := lt_e H4
      clear H4
      refine ev_iastore (k := 177) j_ok1 hi0 hi1 eh3 dX12_spoil_168 (hc := ac_177) (hlen := ln_177 _ _) (K := ?_)
      refine ev_aload_n 0 dX12_spoil_169 (k := ?_)
      refine ev_getR (t := 178) (x := some (178, 0)) fl_X12_222 dX12_spoil_170 (hx := ry_12_78 _ _) (K := ?_)
      refine ev_aload_n 0 dX12_spoil_173 (k := ?_)
      refine ev_dup dX12_spoil_174 (k := ?_)
      refine ev_getI (x := h3.1 12 0 75) fl_X12_422 dX12_spoil_175 (K := ?_)
      refine ev_dup_x1 dX12_spoil_178 (k := ?_)
      refine ev_iconst dX12_spoil_179 (k := ?_)
      refine ev_iadd dX12_spoil_180 (k := ?_)
      obtain ⟨h4, eh4, H6⟩ := lt_e H5
      clear H5
      refine ev_putI j_ok1 fl_X12_422 eh4 dX12_spoil_181 (K := ?_)
      refine ev_iload_n 3 dX12_spoil_184 (k := ?_)
      obtain ⟨⟨hi0, hi1⟩, H7⟩ := g_e H6
      clear H6
      obtain ⟨h5, eh5, H8⟩ := lt_e H7
      clear H7
      refine ev_iastore (k := 178) j_ok1 hi0 hi1 eh5 dX12_spoil_185 (hc := ac_178) (hlen := ln_178 _ _) (K := ?_)
      refine ev_aload_n 0 dX12_spoil_186 (k := ?_)
      refine ev_getI (x := h5.1 12 0 75) fl_X12_422 dX12_spoil_187 (K := ?_)
      cases H8
      exact ev_ireturn dX12_spoil_190
    · replace H1 := if_pe hc H1
      refine ev_bipush dX12_spoil_146 (k := ?_)
      cases H1
      exact ev_ireturn dX12_spoil_148
  · replace H := if_ne hc H
    refine ev_aload_n 0 dX12_spoil_62 (k := ?_)
    refine ev_getR (t := 177) (x := some (177, 0)) fl_X12_219 dX12_spoil_63 (hx := ry_12_77 _ _) (K := ?_)
    refine ev_iload 5 dX12_spoil_66 (k := ?_)
    obtain ⟨⟨hi0, hi1⟩, H1⟩ := g_e H
    clear H
    refine ev_iaload (k := 177) hi0 hi1 dX12_spoil_68 (hc := ac_177) (hlen := ln_177 _ _) (K := ?_)
    refine ev_aload_n 0 dX12_spoil_69 (k := ?_)
    refine ev_getI (x := h.1 12 0 2) fl_X12_285 dX12_spoil_70 (K := ?_)
    refine ev_icmpge 79 dX12_spoil_73 (kt := fun hc => ?_) (kf := fun hc => ?_)
    · replace H1 := if_pe hc H1
      refine ev_aload_n 0 dX12_spoil_79 (k := ?_)
      refine ev_getR (t := 176) (x := some (176, 0)) fl_X12_216 dX12_spoil_80 (hx := ry_12_76 _ _) (K := ?_)
      refine ev_iload 4 dX12_spoil_83 (k := ?_)
      refine ev_aload_n 0 dX12_spoil_85 (k := ?_)
      refine ev_getR (t := 176) (x := some (176, 0)) fl_X12_216 dX12_spoil_86 (hx := ry_12_76 _ _) (K := ?_)
      refine ev_iload 5 dX12_spoil_89 (k := ?_)
      obtain ⟨⟨hi0, hi1⟩, H2⟩ := g_e H1
      clear H1
      refine ev_iaload (k := 176) hi0 hi1 dX12_spoil_91 (hc := ac_176) (hlen := ln_176 _ _) (K := ?_)
      obtain ⟨⟨hi0, hi1⟩, H3⟩ := g_e H2
      clear H2
      obtain ⟨h6, eh6, H4⟩ := lt_e H3
      clear H3
      refine ev_iastore (k := 176) j_ok1 hi0 hi1 eh6 dX12_spoil_92 (hc := ac_176) (hlen := ln_176 _ _) (K := ?_)
      refine ev_aload_n 0 dX12_spoil_93 (k := ?_)
      refine ev_getR (t := 177) (x := some (177, 0)) fl_X12_219 dX12_spoil_94 (hx := ry_12_77 _ _) (K := ?_)
      refine ev_iload 4 dX12_spoil_97 (k := ?_)
      refine ev_aload_n 0 dX12_spoil_99 (k := ?_)
      refine ev_getR (t := 177) (x := some (177, 0)) fl_X12_219 dX12_spoil_100 (hx := ry_12_77 _ _) (K := ?_)
      refine ev_iload 5 dX12_spoil_103 (k := ?_)
      obtain ⟨⟨hi0, hi1⟩, H5⟩ := g_e H4
      clear H4
      refine ev_iaload (k := 177) hi0 hi1 dX12_spoil_105 (hc := ac_177) (hlen := ln_177 _ _) (K := ?_)
      obtain ⟨⟨hi0, hi1⟩, H6⟩ := g_e H5
      clear H5
      obtain ⟨h7, eh7, H7⟩ := lt_e H6
      clear H6
      refine ev_iastore (k := 177) j_ok1 hi0 hi1 eh7 dX12_spoil_106 (hc := ac_177) (hlen := ln_177 _ _) (K := ?_)
      refine ev_aload_n 0 dX12_spoil_107 (k := ?_)
      refine ev_getR (t := 178) (x := some (178, 0)) fl_X12_222 dX12_spoil_108 (hx := ry_12_78 _ _) (K := ?_)
      refine ev_iload 4 dX12_spoil_111 (k := ?_)
      refine ev_iinc 4 [(4, .inl (w32 (l4 + 1))), (0, .inr (.inr (some (12, 0)))), (1, .inl (l1)), (2, .inl (l2)), (3, .inl (l3)), (5, .inl (l5))] dX12_spoil_113 (k := ?_)
      refine ev_aload_n 1 dX12_spoil_116 (k := ?_)
      refine ev_getR (t := 178) (x := some (178, 0)) fl_X12_222 dX12_spoil_117 (hx := ry_12_78 _ _) (K := ?_)
      refine ev_iload 5 dX12_spoil_120 (k := ?_)
      obtain ⟨⟨hi0, hi1⟩, H8⟩ := g_e H7
      clear H7
      refine ev_iaload (k := 178) hi0 hi1 dX12_spoil_122 (hc := ac_178) (hlen := ln_178 _ _) (K := ?_)
      obtain ⟨⟨hi0, hi1⟩, H9⟩ := g_e H8
      clear H8
      obtain ⟨h8, eh8, H10⟩ := lt_e H9
      clear H9
      refine ev_iastore (k := 178) j_ok1 hi0 hi1 eh8 dX12_spoil_123 (hc := ac_178) (hlen := ln_178 _ _) (K := ?_)
      refine ev_lv [1, 2, 3, 4, 0, 5] [(0, .inr (.inr (some (12, 0)))), (1, .inl (l1)), (2, .inl (l2)), (3, .inl (l3)), (4, .inl (w32 (l4 + 1))), (5, .inl (l5))] (k := ?_)
      exact E12_spoil_124 k53 hk53 l1 l2 l3 (w32 (l4 + 1)) l5 h8 _ H10
    · replace H1 := if_ne hc H1
      refine ev_goto 124 dX12_spoil_76 (k := ?_)
      exact E12_spoil_124 k53 hk53 l1 l2 l3 l4 l5 h _ H1
theorem E12_spoil_53 (n : Nat) : ∀ (l1 : Int) (l2 : Int) (l3 : Int) (l4 : Int) (l5 : Int) (h : JM) (res : (Int × JM)), F12_spoil_53 n l1 l2 l3 l4 l5 h = some res → Ev j_W1 2 0 0 T12_spoil 53 [(0, .inr (.inr (some (12, 0)))), (1, .inl (l1)), (2, .inl (l2)), (3, .inl (l3)), (4, .inl (l4)), (5, .inl (l5))] [] h (some (.inl res.1)) res.2 := by
  induction n with
  | zero =>
    intro l1 l2 l3 l4 l5 h res H
    cases H
  | succ n ih =>
    intro l1 l2 l3 l4 l5 h res H
    exact E12_spoil_53b (F12_spoil_53 n) ih l1 l2 l3 l4 l5 h res H
set_option maxRecDepth 100000 in
set_option maxHeartbeats 4000000 in
theorem E12_spoil_44 (h : JM) (res : (Int × JM)) (H : F12_spoil_44 h = some res) : Ev j_W1 2 0 0 T12_spoil 44 [] [] h (some (.inl res.1)) res.2 := by
  unfold F12_spoil_44 at H
  refine ev_bipush dX12_spoil_44 (k := ?_)
  cases H
  exact ev_ireturn dX12_spoil_46
set_option maxRecDepth 100000 in
set_option maxHeartbeats 4000000 in
theorem C12_spoil {l1 : Int} {l2 : Int} {l3 : Int} {h : JM} {res : (Int × JM)} (H : F12_spoil l1 l2 l3 h = some res) : Cn j_W1 2 0 0 yX12_spoil cX12_spoil 6 (some .int) [.inr (.inr (some (12, 0))), .inl (l1), .inl (l2), .inl (l3)] h (some (.inl res.1)) res.2 := by
  refine Cn.by (own := RX12) (b := false) [(0, .inr (.inr (some (12, 0)))), (1, .inl (l1)), (2, .inl (l2)), (3, .inl (l3))] rfl (fun z => by cases z) (by decide +kernel) (K := ?_)
  unfold F12_spoil at H
  refine ev_iload_n 1 dX12_spoil_0 (k := ?_)
  refine ev_i2l dX12_spoil_1 (k := ?_)
  refine ev_lconst (v := 0) dX12_spoil_2 (k := ?_)
  refine ev_lconst (v := 1) dX12_spoil_3 (k := ?_)
  obtain ⟨q9, hq, H1⟩ := bd_e H
  clear H
  refine ev_callS (mc := 0) (ms := 0) (st := []) (C12_in hq) md_X12_in ss_X12_in ml_X12_268 dX12_spoil_4 _ (by decide) (K := ?_)
  refine ev_ifeq 44 dX12_spoil_7 (kt := fun hc => ?_) (kf := fun hc => ?_)
  · replace H1 := if_pe hc H1
    refine ev_lv [] [] (k := ?_)
    exact E12_spoil_44 q9.2 _ H1
  · replace H1 := if_ne hc H1
    refine ev_iload_n 2 dX12_spoil_10 (k := ?_)
    refine ev_i2l dX12_spoil_11 (k := ?_)
    refine ev_aload_n 0 dX12_spoil_12 (k := ?_)
    refine ev_getI (x := q9.2.1 12 0 2) fl_X12_285 dX12_spoil_13 (K := ?_)
    refine ev_i2l dX12_spoil_16 (k := ?_)
    refine ev_aload_n 0 dX12_spoil_17 (k := ?_)
    refine ev_getI (x := q9.2.1 12 0 2) fl_X12_285 dX12_spoil_18 (K := ?_)
    refine ev_i2l dX12_spoil_21 (k := ?_)
    refine ev_ldc2 (n := 100000) cl_X12_418 dX12_spoil_22 (k := ?_)
    refine ev_ladd dX12_spoil_25 (k := ?_)
    obtain ⟨q10, hq, H2⟩ := bd_e H1
    clear H1
    refine ev_callS (mc := 0) (ms := 0) (st := []) (C12_in hq) md_X12_in ss_X12_in ml_X12_268 dX12_spoil_26 _ (by decide) (K := ?_)
    refine ev_ifeq 44 dX12_spoil_29 (kt := fun hc => ?_) (kf := fun hc => ?_)
    · replace H2 := if_pe hc H2
      refine ev_lv [] [] (k := ?_)
      exact E12_spoil_44 q10.2 _ H2
    · replace H2 := if_ne hc H2
      refine ev_iload_n 3 dX12_spoil_32 (k := ?_)
      refine ev_i2l dX12_spoil_33 (k := ?_)
      refine ev_lconst (v := 0) dX12_spoil_34 (k := ?_)
      refine ev_ldc2 (n := 255) cl_X12_420 dX12_spoil_35 (k := ?_)
      obtain ⟨q11, hq, H3⟩ := bd_e H2
      clear H2
      refine ev_callS (mc := 0) (ms := 0) (st := []) (C12_in hq) md_X12_in ss_X12_in ml_X12_268 dX12_spoil_38 _ (by decide) (K := ?_)
      refine ev_ifne 47 dX12_spoil_41 (kt := fun hc => ?_) (kf := fun hc => ?_)
      · replace H3 := if_ne hc H3
        refine ev_iconst dX12_spoil_47 (k := ?_)
        refine ev_istore [(4, .inl (0)), (0, .inr (.inr (some (12, 0)))), (1, .inl (l1)), (2, .inl (l2)), (3, .inl (l3))] dX12_spoil_48 (k := ?_)
        refine ev_iconst dX12_spoil_50 (k := ?_)
        refine ev_istore [(5, .inl (0)), (4, .inl (0)), (0, .inr (.inr (some (12, 0)))), (1, .inl (l1)), (2, .inl (l2)), (3, .inl (l3))] dX12_spoil_51 (k := ?_)
        refine ev_lv [2, 3, 4, 5, 1, 0] [(0, .inr (.inr (some (12, 0)))), (1, .inl (l1)), (2, .inl (l2)), (3, .inl (l3)), (4, .inl (0)), (5, .inl (0))] (k := ?_)
        exact E12_spoil_53 j_fu l1 l2 l3 0 0 q11.2 _ H3
      · replace H3 := if_pe hc H3
        refine ev_lv [] [] (k := ?_)
        exact E12_spoil_44 q11.2 _ H3
-- X12_tariff
abbrev T12_tariff : JT := (RX12, cX12_tariff, 6, some .int, false)
set_option maxRecDepth 100000 in
set_option maxHeartbeats 4000000 in
theorem E12_tariff_62 (h : JM) (res : (Int × JM)) (H : F12_tariff_62 h = some res) : Ev j_W1 2 0 0 T12_tariff 62 [] [] h (some (.inl res.1)) res.2 := by
  unfold F12_tariff_62 at H
  refine ev_bipush dX12_tariff_62 (k := ?_)
  cases H
  exact ev_ireturn dX12_tariff_64
set_option maxRecDepth 100000 in
set_option maxHeartbeats 4000000 in
theorem C12_tariff {l1 : Int} {l2 : Int} {l3 : Int} {l4 : Int} {l5 : Int} {h : JM} {res : (Int × JM)} (H : F12_tariff l1 l2 l3 l4 l5 h = some res) : Cn j_W1 2 0 0 yX12_tariff cX12_tariff 6 (some .int) [.inr (.inr (some (12, 0))), .inl (l1), .inl (l2), .inl (l3), .inl (l4), .inl (l5)] h (some (.inl res.1)) res.2 := by
  refine Cn.by (own := RX12) (b := false) [(0, .inr (.inr (some (12, 0)))), (1, .inl (l1)), (2, .inl (l2)), (3, .inl (l3)), (4, .inl (l4)), (5, .inl (l5))] rfl (fun z => by cases z) (by decide +kernel) (K := ?_)
  unfold F12_tariff at H
  refine ev_iload_n 1 dX12_tariff_0 (k := ?_)
  refine ev_i2l dX12_tariff_1 (k := ?_)
  refine ev_lconst (v := 0) dX12_tariff_2 (k := ?_)
  refine ev_ldc2 (n := 3) cl_X12_279 dX12_tariff_3 (k := ?_)
  obtain ⟨q1, hq, H1⟩ := bd_e H
  clear H
  refine ev_callS (mc := 0) (ms := 0) (st := []) (C12_in hq) md_X12_in ss_X12_in ml_X12_268 dX12_tariff_6 _ (by decide) (K := ?_)
  refine ev_ifeq 62 dX12_tariff_9 (kt := fun hc => ?_) (kf := fun hc => ?_)
  · replace H1 := if_pe hc H1
    refine ev_lv [] [] (k := ?_)
    exact E12_tariff_62 q1.2 _ H1
  · replace H1 := if_ne hc H1
    refine ev_iload_n 2 dX12_tariff_12 (k := ?_)
    refine ev_i2l dX12_tariff_13 (k := ?_)
    refine ev_lconst (v := 0) dX12_tariff_14 (k := ?_)
    refine ev_ldc2 (n := 10000) cl_X12_480 dX12_tariff_15 (k := ?_)
    obtain ⟨q2, hq, H2⟩ := bd_e H1
    clear H1
    refine ev_callS (mc := 0) (ms := 0) (st := []) (C12_in hq) md_X12_in ss_X12_in ml_X12_268 dX12_tariff_18 _ (by decide) (K := ?_)
    refine ev_ifeq 62 dX12_tariff_21 (kt := fun hc => ?_) (kf := fun hc => ?_)
    · replace H2 := if_pe hc H2
      refine ev_lv [] [] (k := ?_)
      exact E12_tariff_62 q2.2 _ H2
    · replace H2 := if_ne hc H2
      refine ev_iload_n 3 dX12_tariff_24 (k := ?_)
      refine ev_i2l dX12_tariff_25 (k := ?_)
      refine ev_lconst (v := 1) dX12_tariff_26 (k := ?_)
      refine ev_ldc2 (n := 1000) cl_X12_482 dX12_tariff_27 (k := ?_)
      obtain ⟨q3, hq, H3⟩ := bd_e H2
      clear H2
      refine ev_callS (mc := 0) (ms := 0) (st := []) (C12_in hq) md_X12_in ss_X12_in ml_X12_268 dX12_tariff_30 _ (by decide) (K := ?_)
      refine ev_ifeq 62 dX12_tariff_33 (kt := fun hc => ?_) (kf := fun hc => ?_)
      · replace H3 := if_pe hc H3
        refine ev_lv [] [] (k := ?_)
        exact E12_tariff_62 q3.2 _ H3
      · replace H3 := if_ne hc H3
        refine ev_iload 4 dX12_tariff_36 (k := ?_)
        refine ev_i2l dX12_tariff_38 (k := ?_)
        refine ev_lconst (v := 0) dX12_tariff_39 (k := ?_)
        refine ev_ldc2 (n := 200) cl_X12_484 dX12_tariff_40 (k := ?_)
        obtain ⟨q4, hq, H4⟩ := bd_e H3
        clear H3
        refine ev_callS (mc := 0) (ms := 0) (st := []) (C12_in hq) md_X12_in ss_X12_in ml_X12_268 dX12_tariff_43 _ (by decide) (K := ?_)
        refine ev_ifeq 62 dX12_tariff_46 (kt := fun hc => ?_) (kf := fun hc => ?_)
        · replace H4 := if_pe hc H4
          refine ev_lv [] [] (k := ?_)
          exact E12_tariff_62 q4.2 _ H4
        · replace H4 := if_ne hc H4
          refine ev_iload 5 dX12_tariff_49 (k := ?_)
          refine ev_i2l dX12_tariff_51 (k := ?_)
          refine ev_lconst (v := 0) dX12_tariff_52 (k := ?_)
          refine ev_ldc2 (n := 200) cl_X12_484 dX12_tariff_53 (k := ?_)
          obtain ⟨q5, hq, H5⟩ := bd_e H4
          clear H4
          refine ev_callS (mc := 0) (ms := 0) (st := []) (C12_in hq) md_X12_in ss_X12_in ml_X12_268 dX12_tariff_56 _ (by decide) (K := ?_)
          refine ev_ifne 65 dX12_tariff_59 (kt := fun hc => ?_) (kf := fun hc => ?_)
          · replace H5 := if_ne hc H5
            refine ev_aload_n 0 dX12_tariff_65 (k := ?_)
            refine ev_getR (t := 186) (x := some (186, 0)) fl_X12_240 dX12_tariff_66 (hx := ry_12_86 _ _) (K := ?_)
            refine ev_iload_n 1 dX12_tariff_69 (k := ?_)
            refine ev_iload_n 2 dX12_tariff_70 (k := ?_)
            obtain ⟨⟨hi0, hi1⟩, H6⟩ := g_e H5
            clear H5
            obtain ⟨h6, eh6, H7⟩ := lt_e H6
            clear H6
            refine ev_iastore (k := 186) j_ok1 hi0 hi1 eh6 dX12_tariff_71 (hc := ac_186) (hlen := ln_186 _ _) (K := ?_)
            refine ev_aload_n 0 dX12_tariff_72 (k := ?_)
            refine ev_getR (t := 187) (x := some (187, 0)) fl_X12_243 dX12_tariff_73 (hx := ry_12_87 _ _) (K := ?_)
            refine ev_iload_n 1 dX12_tariff_76 (k := ?_)
            refine ev_iload_n 3 dX12_tariff_77 (k := ?_)
            obtain ⟨⟨hi0, hi1⟩, H8⟩ := g_e H7
            clear H7
            obtain ⟨h7, eh7, H9⟩ := lt_e H8
            clear H8
            refine ev_iastore (k := 187) j_ok1 hi0 hi1 eh7 dX12_tariff_78 (hc := ac_187) (hlen := ln_187 _ _) (K := ?_)
            refine ev_aload_n 0 dX12_tariff_79 (k := ?_)
            refine ev_getR (t := 188) (x := some (188, 0)) fl_X12_246 dX12_tariff_80 (hx := ry_12_88 _ _) (K := ?_)
            refine ev_iload_n 1 dX12_tariff_83 (k := ?_)
            refine ev_iload 4 dX12_tariff_84 (k := ?_)
            obtain ⟨⟨hi0, hi1⟩, H10⟩ := g_e H9
            clear H9
            obtain ⟨h8, eh8, H11⟩ := lt_e H10
            clear H10
            refine ev_iastore (k := 188) j_ok1 hi0 hi1 eh8 dX12_tariff_86 (hc := ac_188) (hlen := ln_188 _ _) (K := ?_)
            refine ev_aload_n 0 dX12_tariff_87 (k := ?_)
            refine ev_getR (t := 189) (x := some (189, 0)) fl_X12_249 dX12_tariff_88 (hx := ry_12_89 _ _) (K := ?_)
            refine ev_iload_n 1 dX12_tariff_91 (k := ?_)
            refine ev_iload 5 dX12_tariff_92 (k := ?_)
            obtain ⟨⟨hi0, hi1⟩, H12⟩ := g_e H11
            clear H11
            obtain ⟨h9, eh9, H13⟩ := lt_e H12
            clear H12
            refine ev_iastore (k := 189) j_ok1 hi0 hi1 eh9 dX12_tariff_94 (hc := ac_189) (hlen := ln_189 _ _) (K := ?_)
            refine ev_iconst dX12_tariff_95 (k := ?_)
            cases H13
            exact ev_ireturn dX12_tariff_96
          · replace H5 := if_pe hc H5
            refine ev_lv [] [] (k := ?_)
            exact E12_tariff_62 q5.2 _ H5
-- X12_times
abbrev T12_times : JT := (RX12, cX12_times, 3, none, false)
set_option maxRecDepth 100000 in
set_option maxHeartbeats 4000000 in
theorem C12_times {l1 : Int} {h : JM} {res : JM} (H : F12_times l1 h = some res) : Cn j_W1 92 0 0 yX12_times cX12_times 3 none [.inr (.inr (some (12, 0))), .inl (l1)] h none res := by
  refine Cn.by (own := RX12) (b := false) [(0, .inr (.inr (some (12, 0)))), (1, .inl (l1))] rfl (fun z => by cases z) (by decide +kernel) (K := ?_)
  unfold F12_times at H
  refine ev_aload_n 0 dX12_times_0 (k := ?_)
  refine ev_getI (x := h.1 12 0 2) fl_X12_285 dX12_times_1 (K := ?_)
  refine ev_aload_n 0 dX12_times_4 (k := ?_)
  refine ev_getR (t := 145) (x := some (145, 0)) fl_X12_131 dX12_times_5 (hx := ry_12_45 _ _) (K := ?_)
  refine ev_iload_n 1 dX12_times_8 (k := ?_)
  obtain ⟨⟨hi0, hi1⟩, H1⟩ := g_e H
  clear H
  refine ev_iaload (k := 145) hi0 hi1 dX12_times_9 (hc := ac_145) (hlen := ln_145 _ _) (K := ?_)
  refine ev_isub dX12_times_10 (k := ?_)
  obtain ⟨x1, ex1, H2⟩ := lt_e H1
  clear H1
  refine ev_topI ex1 ?_
  refine ev_istore_n [(2, .inl (x1)), (0, .inr (.inr (some (12, 0)))), (1, .inl (l1))] dX12_times_11 (k := ?_)
  refine ev_aload_n 1 dX12_times_12 (k := ?_)
  refine ev_getR (t := 133) (x := some (133, 0)) fl_X12_95 dX12_times_13 (hx := ry_12_33 _ _) (K := ?_)
  refine ev_iload_n 2 dX12_times_16 (k := ?_)
  obtain ⟨⟨hi0, hi1⟩, H3⟩ := g_e H2
  clear H2
  refine ev_iaload (k := 133) hi0 hi1 dX12_times_17 (hc := ac_133) (hlen := ln_133 _ _) (K := ?_)
  by_cases hs0 : h.1 133 0 l1 = 0
  · replace H3 := if_pe hs0 H3
    refine ev_tableIn (off := 34) 52 dX12_times_18 (by omega) (by omega) (by rw [hs0]; rfl) (k := ?_)
    refine ev_iload_n 0 dX12_times_52 (k := ?_)
    refine ev_sipush dX12_times_53 (k := ?_)
    refine ev_icmpne 172 dX12_times_56 (kt := fun hc => ?_) (kf := fun hc => ?_)
    · replace H3 := if_ne hc H3
      cases H3
      exact ev_return dX12_times_172
    · replace H3 := if_pe hc H3
      refine ev_aload_n 1 dX12_times_59 (k := ?_)
      refine ev_iload_n 2 dX12_times_60 (k := ?_)
      refine ev_iconst dX12_times_61 (k := ?_)
      refine ev_iconst dX12_times_62 (k := ?_)
      obtain ⟨h2, hq, H4⟩ := bd_e H3
      clear H3
      refine ev_callV (mc := 0) (ms := 0) (st := []) (C12_over hq) md_X12_over im_X12_over se_X12_over ml_X12_323 dX12_times_63 _ (by decide) (K := ?_)
      refine ev_goto 172 dX12_times_66 (k := ?_)
      cases H4
      exact ev_return dX12_times_172
  · replace H3 := if_ne hs0 H3
    by_cases hs1 : h.1 133 0 l1 = 1
    · replace H3 := if_pe hs1 H3
      refine ev_tableIn (off := 51) 69 dX12_times_18 (by omega) (by omega) (by rw [hs1]; rfl) (k := ?_)
      refine ev_iload_n 0 dX12_times_69 (k := ?_)
      refine ev_sipush dX12_times_70 (k := ?_)
      refine ev_icmpne 172 dX12_times_73 (kt := fun hc => ?_) (kf := fun hc => ?_)
      · replace H3 := if_ne hc H3
        cases H3
        exact ev_return dX12_times_172
      · replace H3 := if_pe hc H3
        refine ev_aload_n 1 dX12_times_76 (k := ?_)
        refine ev_iload_n 2 dX12_times_77 (k := ?_)
        refine ev_bipush dX12_times_78 (k := ?_)
        refine ev_iconst dX12_times_80 (k := ?_)
        obtain ⟨h3, hq, H4⟩ := bd_e H3
        clear H3
        refine ev_callV (mc := 0) (ms := 0) (st := []) (C12_over hq) md_X12_over im_X12_over se_X12_over ml_X12_323 dX12_times_81 _ (by decide) (K := ?_)
        refine ev_goto 172 dX12_times_84 (k := ?_)
        cases H4
        exact ev_return dX12_times_172
    · replace H3 := if_ne hs1 H3
      by_cases hs2 : h.1 133 0 l1 = 2
      · replace H3 := if_pe hs2 H3
        refine ev_tableIn (off := 69) 87 dX12_times_18 (by omega) (by omega) (by rw [hs2]; rfl) (k := ?_)
        refine ev_aload_n 1 dX12_times_87 (k := ?_)
        refine ev_getR (t := 137) (x := some (137, 0)) fl_X12_107 dX12_times_88 (hx := ry_12_37 _ _) (K := ?_)
        refine ev_iload_n 2 dX12_times_91 (k := ?_)
        obtain ⟨⟨hi0, hi1⟩, H4⟩ := g_e H3
        clear H3
        refine ev_iaload (k := 137) hi0 hi1 dX12_times_92 (hc := ac_137) (hlen := ln_137 _ _) (K := ?_)
        obtain ⟨q4, hq, H5⟩ := bd_e H4
        clear H4
        refine ev_callS (mc := 0) (ms := 0) (st := []) (C12_isLineSide hq) md_X12_isLineSide ss_X12_isLineSide ml_X12_349 dX12_times_93 _ (by decide) (K := ?_)
        refine ev_ifeq 172 dX12_times_96 (kt := fun hc => ?_) (kf := fun hc => ?_)
        · replace H5 := if_pe hc H5
          cases H5
          exact ev_return dX12_times_172
        · replace H5 := if_ne hc H5
          refine ev_aload_n 1 dX12_times_99 (k := ?_)
          refine ev_iload_n 2 dX12_times_100 (k := ?_)
          refine ev_iload_n 0 dX12_times_101 (k := ?_)
          obtain ⟨h5, hq, H6⟩ := bd_e H5
          clear H5
          refine ev_callV (mc := 0) (ms := 0) (st := []) (C12_ringsLong hq) md_X12_ringsLong im_X12_ringsLong se_X12_ringsLong ml_X12_399 dX12_times_102 _ (by decide) (K := ?_)
          refine ev_goto 172 dX12_times_105 (k := ?_)
          cases H6
          exact ev_return dX12_times_172
      · replace H3 := if_ne hs2 H3
        by_cases hs3 : h.1 133 0 l1 = 4
        · replace H3 := if_pe hs3 H3
          refine ev_tableIn (off := 90) 108 dX12_times_18 (by omega) (by omega) (by rw [hs3]; rfl) (k := ?_)
          refine ev_iload_n 0 dX12_times_108 (k := ?_)
          refine ev_sipush dX12_times_109 (k := ?_)
          refine ev_icmpne 172 dX12_times_112 (kt := fun hc => ?_) (kf := fun hc => ?_)
          · replace H3 := if_ne hc H3
            cases H3
            exact ev_return dX12_times_172
          · replace H3 := if_pe hc H3
            refine ev_aload_n 1 dX12_times_115 (k := ?_)
            refine ev_iload_n 2 dX12_times_116 (k := ?_)
            refine ev_iconst dX12_times_117 (k := ?_)
            refine ev_iconst dX12_times_118 (k := ?_)
            obtain ⟨h6, hq, H4⟩ := bd_e H3
            clear H3
            refine ev_callV (mc := 0) (ms := 0) (st := []) (C12_over hq) md_X12_over im_X12_over se_X12_over ml_X12_323 dX12_times_119 _ (by decide) (K := ?_)
            refine ev_goto 172 dX12_times_122 (k := ?_)
            cases H4
            exact ev_return dX12_times_172
        · replace H3 := if_ne hs3 H3
          rcases (show (h.1 133 0 l1 < 0 ∨ 4 < h.1 133 0 l1) ∨ (h.1 133 0 l1 = 3) by omega) with hz | hz
          · refine ev_tableOut 125 dX12_times_18 hz (k := ?_)
            refine ev_aload_n 1 dX12_times_125 (k := ?_)
            refine ev_getR (t := 136) (x := some (136, 0)) fl_X12_104 dX12_times_126 (hx := ry_12_36 _ _) (K := ?_)
            refine ev_iload_n 2 dX12_times_129 (k := ?_)
            obtain ⟨⟨hi0, hi1⟩, H4⟩ := g_e H3
            clear H3
            refine ev_iaload (k := 136) hi0 hi1 dX12_times_130 (hc := ac_136) (hlen := ln_136 _ _) (K := ?_)
            obtain ⟨q7, hq, H5⟩ := bd_e H4
            clear H4
            refine ev_callS (mc := 0) (ms := 0) (st := []) (C12_isLineSide hq) md_X12_isLineSide ss_X12_isLineSide ml_X12_349 dX12_times_131 _ (by decide) (K := ?_)
            refine ev_ifeq 172 dX12_times_134 (kt := fun hc => ?_) (kf := fun hc => ?_)
            · replace H5 := if_pe hc H5
              cases H5
              exact ev_return dX12_times_172
            · replace H5 := if_ne hc H5
              refine ev_iload_n 0 dX12_times_137 (k := ?_)
              refine ev_ifle 172 dX12_times_138 (kt := fun hc => ?_) (kf := fun hc => ?_)
              · replace H5 := if_pe hc H5
                cases H5
                exact ev_return dX12_times_172
              · replace H5 := if_ne hc H5
                refine ev_iload_n 0 dX12_times_141 (k := ?_)
                refine ev_aload_n 1 dX12_times_142 (k := ?_)
                refine ev_getR (t := 187) (x := some (187, 0)) fl_X12_243 dX12_times_143 (hx := ry_12_87 _ _) (K := ?_)
                refine ev_aload_n 1 dX12_times_146 (k := ?_)
                refine ev_getR (t := 143) (x := some (143, 0)) fl_X12_125 dX12_times_147 (hx := ry_12_43 _ _) (K := ?_)
                refine ev_iload_n 2 dX12_times_150 (k := ?_)
                obtain ⟨⟨hi0, hi1⟩, H6⟩ := g_e H5
                clear H5
                refine ev_iaload (k := 143) hi0 hi1 dX12_times_151 (hc := ac_143) (hlen := ln_143 _ _) (K := ?_)
                obtain ⟨⟨hi0, hi1⟩, H7⟩ := g_e H6
                clear H6
                refine ev_iaload (k := 187) hi0 hi1 dX12_times_152 (hc := ac_187) (hlen := ln_187 _ _) (K := ?_)
                obtain ⟨hne, H8⟩ := g_e H7
                clear H7
                refine ev_irem dX12_times_153 hne (k := ?_)
                refine ev_ifne 172 dX12_times_154 (kt := fun hc => ?_) (kf := fun hc => ?_)
                · replace H8 := if_ne hc H8
                  cases H8
                  exact ev_return dX12_times_172
                · replace H8 := if_pe hc H8
                  refine ev_aload_n 1 dX12_times_157 (k := ?_)
                  refine ev_iload_n 2 dX12_times_158 (k := ?_)
                  refine ev_aload_n 1 dX12_times_159 (k := ?_)
                  refine ev_aload_n 1 dX12_times_160 (k := ?_)
                  refine ev_getR (t := 143) (x := some (143, 0)) fl_X12_125 dX12_times_161 (hx := ry_12_43 _ _) (K := ?_)
                  refine ev_iload_n 2 dX12_times_164 (k := ?_)
                  obtain ⟨⟨hi0, hi1⟩, H9⟩ := g_e H8
                  clear H8
                  refine ev_iaload (k := 143) hi0 hi1 dX12_times_165 (hc := ac_143) (hlen := ln_143 _ _) (K := ?_)
                  obtain ⟨q8, hq, H10⟩ := bd_e H9
                  clear H9
                  refine ev_callV (mc := 0) (ms := 0) (st := [.inl (l1), .inr (.inr (some (12, 0)))]) (C12_price hq) md_X12_price im_X12_price se_X12_price ml_X12_382 dX12_times_166 _ (by decide) (K := ?_)
                  obtain ⟨h9, hq, H11⟩ := bd_e H10
                  clear H10
                  refine ev_callV (mc := 0) (ms := 0) (st := []) (C12_charges hq) md_X12_charges im_X12_charges se_X12_charges ml_X12_385 dX12_times_169 _ (by decide) (K := ?_)
                  cases H11
                  exact ev_return dX12_times_172
          · refine ev_tableIn (off := 107) 125 dX12_times_18 (by omega) (by omega) (by rw [hz]; rfl) (k := ?_)
            refine ev_aload_n 1 dX12_times_125 (k := ?_)
            refine ev_getR (t := 136) (x := some (136, 0)) fl_X12_104 dX12_times_126 (hx := ry_12_36 _ _) (K := ?_)
            refine ev_iload_n 2 dX12_times_129 (k := ?_)
            obtain ⟨⟨hi0, hi1⟩, H4⟩ := g_e H3
            clear H3
            refine ev_iaload (k := 136) hi0 hi1 dX12_times_130 (hc := ac_136) (hlen := ln_136 _ _) (K := ?_)
            obtain ⟨q7, hq, H5⟩ := bd_e H4
            clear H4
            refine ev_callS (mc := 0) (ms := 0) (st := []) (C12_isLineSide hq) md_X12_isLineSide ss_X12_isLineSide ml_X12_349 dX12_times_131 _ (by decide) (K := ?_)
            refine ev_ifeq 172 dX12_times_134 (kt := fun hc => ?_) (kf := fun hc => ?_)
            · replace H5 := if_pe hc H5
              cases H5
              exact ev_return dX12_times_172
            · replace H5 := if_ne hc H5
              refine ev_iload_n 0 dX12_times_137 (k := ?_)
              refine ev_ifle 172 dX12_times_138 (kt := fun hc => ?_) (kf := fun hc => ?_)
              · replace H5 := if_pe hc H5
                cases H5
                exact ev_return dX12_times_172
              · replace H5 := if_ne hc H5
                refine ev_iload_n 0 dX12_times_141 (k := ?_)
                refine ev_aload_n 1 dX12_times_142 (k := ?_)
                refine ev_getR (t := 187) (x := some (187, 0)) fl_X12_243 dX12_times_143 (hx := ry_12_87 _ _) (K := ?_)
                refine ev_aload_n 1 dX12_times_146 (k := ?_)
                refine ev_getR (t := 143) (x := some (143, 0)) fl_X12_125 dX12_times_147 (hx := ry_12_43 _ _) (K := ?_)
                refine ev_iload_n 2 dX12_times_150 (k := ?_)
                obtain ⟨⟨hi0, hi1⟩, H6⟩ := g_e H5
                clear H5
                refine ev_iaload (k := 143) hi0 hi1 dX12_times_151 (hc := ac_143) (hlen := ln_143 _ _) (K := ?_)
                obtain ⟨⟨hi0, hi1⟩, H7⟩ := g_e H6
                clear H6
                refine ev_iaload (k := 187) hi0 hi1 dX12_times_152 (hc := ac_187) (hlen := ln_187 _ _) (K := ?_)
                obtain ⟨hne, H8⟩ := g_e H7
                clear H7
                refine ev_irem dX12_times_153 hne (k := ?_)
                refine ev_ifne 172 dX12_times_154 (kt := fun hc => ?_) (kf := fun hc => ?_)
                · replace H8 := if_ne hc H8
                  cases H8
                  exact ev_return dX12_times_172
                · replace H8 := if_pe hc H8
                  refine ev_aload_n 1 dX12_times_157 (k := ?_)
                  refine ev_iload_n 2 dX12_times_158 (k := ?_)
                  refine ev_aload_n 1 dX12_times_159 (k := ?_)
                  refine ev_aload_n 1 dX12_times_160 (k := ?_)
                  refine ev_getR (t := 143) (x := some (143, 0)) fl_X12_125 dX12_times_161 (hx := ry_12_43 _ _) (K := ?_)
                  refine ev_iload_n 2 dX12_times_164 (k := ?_)
                  obtain ⟨⟨hi0, hi1⟩, H9⟩ := g_e H8
                  clear H8
                  refine ev_iaload (k := 143) hi0 hi1 dX12_times_165 (hc := ac_143) (hlen := ln_143 _ _) (K := ?_)
                  obtain ⟨q8, hq, H10⟩ := bd_e H9
                  clear H9
                  refine ev_callV (mc := 0) (ms := 0) (st := [.inl (l1), .inr (.inr (some (12, 0)))]) (C12_price hq) md_X12_price im_X12_price se_X12_price ml_X12_382 dX12_times_166 _ (by decide) (K := ?_)
                  obtain ⟨h9, hq, H11⟩ := bd_e H10
                  clear H10
                  refine ev_callV (mc := 0) (ms := 0) (st := []) (C12_charges hq) md_X12_charges im_X12_charges se_X12_charges ml_X12_385 dX12_times_169 _ (by decide) (K := ?_)
                  cases H11
                  exact ev_return dX12_times_172
