-- X12_toGroup
abbrev T12_toGroup : JT := (RX12, cX12_toGroup, 5, none, false)
set_option maxRecDepth 100000 in
set_option maxHeartbeats 4000000 in
theorem E12_toGroup_29 (l1 : Int) (l2 : Int) (l3 : Int) (s0 : Int) (h : JM) (res : JM) (H : F12_toGroup_29 l1 l2 l3 s0 h = some res) : Ev j_W1 4 0 0 T12_toGroup 29 [(0, .inr (.inr (some (12, 0)))), (1, .inl (l1)), (2, .inl (l2)), (3, .inl (l3))] [.inl (s0)] h none res := by
  unfold F12_toGroup_29 at H
  refine ev_istore [(4, .inl (s0)), (0, .inr (.inr (some (12, 0)))), (1, .inl (l1)), (2, .inl (l2)), (3, .inl (l3))] dX12_toGroup_29 (k := ?_)
  refine ev_iload 0 dX12_toGroup_31 (k := ?_)
  refine ev_iconst dX12_toGroup_33 (k := ?_)
  refine ev_icmpeq 56 dX12_toGroup_34 (kt := fun hc => ?_) (kf := fun hc => ?_)
  · replace H := if_pe hc H
    refine ev_aload_n 1 dX12_toGroup_56 (k := ?_)
    refine ev_getR (t := 153) (x := some (153, 0)) fl_X12_155 dX12_toGroup_57 (hx := ry_12_53 _ _) (K := ?_)
    refine ev_iload_n 4 dX12_toGroup_60 (k := ?_)
    obtain ⟨⟨hi0, hi1⟩, H1⟩ := g_e H
    clear H
    refine ev_iaload (k := 153) hi0 hi1 dX12_toGroup_61 (hc := ac_153) (hlen := ln_153 _ _) (K := ?_)
    refine ev_aload_n 1 dX12_toGroup_62 (k := ?_)
    refine ev_getR (t := 151) (x := some (151, 0)) fl_X12_149 dX12_toGroup_63 (hx := ry_12_51 _ _) (K := ?_)
    refine ev_iload_n 4 dX12_toGroup_66 (k := ?_)
    obtain ⟨⟨hi0, hi1⟩, H2⟩ := g_e H1
    clear H1
    refine ev_iaload (k := 151) hi0 hi1 dX12_toGroup_67 (hc := ac_151) (hlen := ln_151 _ _) (K := ?_)
    refine ev_icmpge 118 dX12_toGroup_68 (kt := fun hc => ?_) (kf := fun hc => ?_)
    · replace H2 := if_pe hc H2
      refine ev_aload_n 1 dX12_toGroup_118 (k := ?_)
      refine ev_iload_n 2 dX12_toGroup_119 (k := ?_)
      refine ev_iconst dX12_toGroup_120 (k := ?_)
      refine ev_iconst dX12_toGroup_121 (k := ?_)
      obtain ⟨h1, hq, H3⟩ := bd_e H2
      clear H2
      refine ev_callV (mc := 0) (ms := 0) (st := []) (C12_over hq) md_X12_over im_X12_over se_X12_over ml_X12_323 dX12_toGroup_122 _ (by decide) (K := ?_)
      cases H3
      exact ev_return dX12_toGroup_125
    · replace H2 := if_ne hc H2
      refine ev_aload_n 1 dX12_toGroup_71 (k := ?_)
      refine ev_getR (t := 152) (x := some (152, 0)) fl_X12_152 dX12_toGroup_72 (hx := ry_12_52 _ _) (K := ?_)
      refine ev_bipush dX12_toGroup_75 (k := ?_)
      refine ev_iload_n 4 dX12_toGroup_77 (k := ?_)
      refine ev_imul dX12_toGroup_78 (k := ?_)
      refine ev_aload_n 1 dX12_toGroup_79 (k := ?_)
      refine ev_getR (t := 153) (x := some (153, 0)) fl_X12_155 dX12_toGroup_80 (hx := ry_12_53 _ _) (K := ?_)
      refine ev_iload_n 4 dX12_toGroup_83 (k := ?_)
      refine ev_dup2 dX12_toGroup_84 (k := ?_)
      obtain ⟨⟨hi0, hi1⟩, H3⟩ := g_e H2
      clear H2
      refine ev_iaload (k := 153) hi0 hi1 dX12_toGroup_85 (hc := ac_153) (hlen := ln_153 _ _) (K := ?_)
      refine ev_dup_x2 dX12_toGroup_86 (k := ?_)
      refine ev_iconst dX12_toGroup_87 (k := ?_)
      refine ev_iadd dX12_toGroup_88 (k := ?_)
      obtain ⟨⟨hi0, hi1⟩, H4⟩ := g_e H3
      clear H3
      obtain ⟨h2, eh2, H5⟩ := lt_e H4
      clear H4
      refine ev_iastore (k := 153) j_ok1 hi0 hi1 eh2 dX12_toGroup_89 (hc := ac_153) (hlen := ln_153 _ _) (K := ?_)
      refine ev_iadd dX12_toGroup_90 (k := ?_)
      refine ev_iload_n 2 dX12_toGroup_91 (k := ?_)
      obtain ⟨⟨hi0, hi1⟩, H6⟩ := g_e H5
      clear H5
      obtain ⟨h3, eh3, H7⟩ := lt_e H6
      clear H6
      refine ev_iastore (k := 152) j_ok1 hi0 hi1 eh3 dX12_toGroup_92 (hc := ac_152) (hlen := ln_152 _ _) (K := ?_)
      refine ev_aload_n 1 dX12_toGroup_93 (k := ?_)
      refine ev_getR (t := 137) (x := some (137, 0)) fl_X12_107 dX12_toGroup_94 (hx := ry_12_37 _ _) (K := ?_)
      refine ev_iload_n 2 dX12_toGroup_97 (k := ?_)
      refine ev_sipush dX12_toGroup_98 (k := ?_)
      refine ev_iload_n 3 dX12_toGroup_101 (k := ?_)
      refine ev_iadd dX12_toGroup_102 (k := ?_)
      obtain ⟨⟨hi0, hi1⟩, H8⟩ := g_e H7
      clear H7
      obtain ⟨h4, eh4, H9⟩ := lt_e H8
      clear H8
      refine ev_iastore (k := 137) j_ok1 hi0 hi1 eh4 dX12_toGroup_103 (hc := ac_137) (hlen := ln_137 _ _) (K := ?_)
      refine ev_aload_n 1 dX12_toGroup_104 (k := ?_)
      refine ev_iload_n 2 dX12_toGroup_105 (k := ?_)
      refine ev_iconst dX12_toGroup_106 (k := ?_)
      obtain ⟨h5, hq, H10⟩ := bd_e H9
      clear H9
      refine ev_callV (mc := 0) (ms := 0) (st := []) (C12_becomes hq) md_X12_becomes im_X12_becomes se_X12_becomes ml_X12_361 dX12_toGroup_107 _ (by decide) (K := ?_)
      refine ev_aload_n 1 dX12_toGroup_110 (k := ?_)
      refine ev_iload_n 2 dX12_toGroup_111 (k := ?_)
      obtain ⟨h6, hq, H11⟩ := bd_e H10
      clear H10
      refine ev_callV (mc := 0) (ms := 0) (st := []) (C12_acm hq) md_X12_acm im_X12_acm se_X12_acm ml_X12_364 dX12_toGroup_112 _ (by decide) (K := ?_)
      refine ev_goto 125 dX12_toGroup_115 (k := ?_)
      cases H11
      exact ev_return dX12_toGroup_125
  · replace H := if_ne hc H
    refine ev_aload_n 1 dX12_toGroup_37 (k := ?_)
    refine ev_getR (t := 121) (x := some (121, 0)) fl_X12_62 dX12_toGroup_38 (hx := ry_12_21 _ _) (K := ?_)
    refine ev_iload 0 dX12_toGroup_41 (k := ?_)
    refine ev_iload_n 2 dX12_toGroup_43 (k := ?_)
    obtain ⟨⟨hi0, hi1⟩, H1⟩ := g_e H
    clear H
    obtain ⟨h7, eh7, H2⟩ := lt_e H1
    clear H1
    refine ev_iastore (k := 121) j_ok1 hi0 hi1 eh7 dX12_toGroup_44 (hc := ac_121) (hlen := ln_121 _ _) (K := ?_)
    refine ev_aload_n 1 dX12_toGroup_45 (k := ?_)
    refine ev_iload_n 2 dX12_toGroup_46 (k := ?_)
    refine ev_iload 0 dX12_toGroup_47 (k := ?_)
    refine ev_iload_n 3 dX12_toGroup_49 (k := ?_)
    obtain ⟨h8, hq, H3⟩ := bd_e H2
    clear H2
    refine ev_callV (mc := 0) (ms := 0) (st := []) (C12_rings hq) md_X12_rings im_X12_rings se_X12_rings ml_X12_373 dX12_toGroup_50 _ (by decide) (K := ?_)
    refine ev_goto 125 dX12_toGroup_53 (k := ?_)
    cases H3
    exact ev_return dX12_toGroup_125
set_option maxRecDepth 100000 in
set_option maxHeartbeats 4000000 in
theorem C12_toGroup {l1 : Int} {l2 : Int} {h : JM} {res : JM} (H : F12_toGroup l1 l2 h = some res) : Cn j_W1 4 0 0 yX12_toGroup cX12_toGroup 5 none [.inr (.inr (some (12, 0))), .inl (l1), .inl (l2)] h none res := by
  refine Cn.by (own := RX12) (b := false) [(0, .inr (.inr (some (12, 0)))), (1, .inl (l1)), (2, .inl (l2))] rfl (fun z => by cases z) (by decide +kernel) (K := ?_)
  unfold F12_toGroup at H
  refine ev_iconst dX12_toGroup_0 (k := ?_)
  refine ev_aload_n 0 dX12_toGroup_1 (k := ?_)
  refine ev_getR (t := 135) (x := some (135, 0)) fl_X12_101 dX12_toGroup_2 (hx := ry_12_35 _ _) (K := ?_)
  refine ev_iload_n 1 dX12_toGroup_5 (k := ?_)
  obtain ⟨⟨hi0, hi1⟩, H1⟩ := g_e H
  clear H
  refine ev_iaload (k := 135) hi0 hi1 dX12_toGroup_6 (hc := ac_135) (hlen := ln_135 _ _) (K := ?_)
  refine ev_imul dX12_toGroup_7 (k := ?_)
  refine ev_iload_n 2 dX12_toGroup_8 (k := ?_)
  refine ev_iadd dX12_toGroup_9 (k := ?_)
  obtain ⟨x9, ex9, H2⟩ := lt_e H1
  clear H1
  refine ev_topI ex9 ?_
  refine ev_istore_n [(3, .inl (x9)), (0, .inr (.inr (some (12, 0)))), (1, .inl (l1)), (2, .inl (l2))] dX12_toGroup_10 (k := ?_)
  refine ev_aload_n 1 dX12_toGroup_11 (k := ?_)
  refine ev_getR (t := 153) (x := some (153, 0)) fl_X12_155 dX12_toGroup_12 (hx := ry_12_53 _ _) (K := ?_)
  refine ev_iload_n 0 dX12_toGroup_15 (k := ?_)
  obtain ⟨⟨hi0, hi1⟩, H3⟩ := g_e H2
  clear H2
  refine ev_iaload (k := 153) hi0 hi1 dX12_toGroup_16 (hc := ac_153) (hlen := ln_153 _ _) (K := ?_)
  refine ev_ifne 28 dX12_toGroup_17 (kt := fun hc => ?_) (kf := fun hc => ?_)
  · replace H3 := if_ne hc H3
    refine ev_iconst dX12_toGroup_28 (k := ?_)
    refine ev_lv [1, 2, 3, 0] [(0, .inr (.inr (some (12, 0)))), (1, .inl (l1)), (2, .inl (l2)), (3, .inl (x9))] (k := ?_)
    exact E12_toGroup_29 l1 l2 x9 (-1) h _ H3
  · replace H3 := if_pe hc H3
    refine ev_aload_n 1 dX12_toGroup_20 (k := ?_)
    refine ev_iload_n 0 dX12_toGroup_21 (k := ?_)
    obtain ⟨q10, hq, H4⟩ := bd_e H3
    clear H3
    refine ev_callV (mc := 0) (ms := 0) (st := []) (C12_ready hq) md_X12_ready im_X12_ready se_X12_ready ml_X12_407 dX12_toGroup_22 _ (by decide) (K := ?_)
    refine ev_goto 29 dX12_toGroup_25 (k := ?_)
    refine ev_lv [1, 2, 3, 0] [(0, .inr (.inr (some (12, 0)))), (1, .inl (l1)), (2, .inl (l2)), (3, .inl (x9))] (k := ?_)
    exact E12_toGroup_29 l1 l2 x9 q10.1 q10.2 _ H4
-- X12_goesOn
abbrev T12_goesOn : JT := (RX12, cX12_goesOn, 4, none, false)
set_option maxRecDepth 100000 in
set_option maxHeartbeats 4000000 in
theorem E12_goesOn_49b (kp : Int → Int → JM → Option JM) (dk : Nat) (hB : 40 ≤ dk) (hkp : ∀ (c row : Int) (h res : JM), kp c row h = some res → Cn j_W1 dk 0 0 yX12_places cX12_places 4 none [.inr (.inr (some (12, 0))), .inl c, .inl row] h none res) (k49 : Int → Int → Int → JM → Option JM) (hk49 : ∀ (l1 : Int) (l2 : Int) (l3 : Int) (h : JM) (res : JM), k49 l1 l2 l3 h = some res → Ev j_W1 (dk + 2) 0 0 T12_goesOn 49 [(0, .inr (.inr (some (12, 0)))), (1, .inl (l1)), (2, .inl (l2)), (3, .inl (l3))] [] h none res) (l1 : Int) (l2 : Int) (l3 : Int) (h : JM) (res : JM) (H : F12_goesOn_49b kp k49 l1 l2 l3 h = some res) : Ev j_W1 (dk + 2) 0 0 T12_goesOn 49 [(0, .inr (.inr (some (12, 0)))), (1, .inl (l1)), (2, .inl (l2)), (3, .inl (l3))] [] h none res := by
  unfold F12_goesOn_49b at H
  refine ev_iload_n 3 dX12_goesOn_49 (k := ?_)
  refine ev_aload_n 0 dX12_goesOn_50 (k := ?_)
  refine ev_getR (t := 129) (x := some (129, 0)) fl_X12_86 dX12_goesOn_51 (hx := ry_12_29 _ _) (K := ?_)
  refine ev_iload_n 2 dX12_goesOn_54 (k := ?_)
  obtain ⟨⟨hi0, hi1⟩, H1⟩ := g_e H
  clear H
  refine ev_iaload (k := 129) hi0 hi1 dX12_goesOn_55 (hc := ac_129) (hlen := ln_129 _ _) (K := ?_)
  refine ev_icmpge 87 dX12_goesOn_56 (kt := fun hc => ?_) (kf := fun hc => ?_)
  · replace H1 := if_pe hc H1
    refine ev_aload_n 0 dX12_goesOn_87 (k := ?_)
    refine ev_iload_n 1 dX12_goesOn_88 (k := ?_)
    obtain ⟨q1, hq, H2⟩ := bd_e H1
    clear H1
    refine ev_callV (mc := 0) (ms := 0) (st := []) (C12_analysis hq) md_X12_analysis im_X12_analysis se_X12_analysis ml_X12_327 dX12_goesOn_89 _ (by omega) (K := ?_)
    refine ev_istore_n [(3, .inl (q1.1)), (0, .inr (.inr (some (12, 0)))), (1, .inl (l1)), (2, .inl (l2))] dX12_goesOn_92 (k := ?_)
    refine ev_iload_n 0 dX12_goesOn_93 (k := ?_)
    refine ev_ifge 107 dX12_goesOn_94 (kt := fun hc => ?_) (kf := fun hc => ?_)
    · replace H2 := if_pe hc H2
      refine ev_aload_n 1 dX12_goesOn_107 (k := ?_)
      refine ev_iload_n 2 dX12_goesOn_108 (k := ?_)
      refine ev_iload_n 0 dX12_goesOn_109 (k := ?_)
      obtain ⟨h2, hq, H3⟩ := bd_e H2
      clear H2
      refine ev_callV (mc := 0) (ms := 0) (st := []) (hkp _ _ _ _ hq) md_X12_places im_X12_places se_X12_places ml_X12_331 dX12_goesOn_110 _ (by omega) (K := ?_)
      cases H3
      exact ev_return dX12_goesOn_113
    · replace H2 := if_ne hc H2
      refine ev_aload_n 1 dX12_goesOn_97 (k := ?_)
      refine ev_iload_n 2 dX12_goesOn_98 (k := ?_)
      refine ev_iconst dX12_goesOn_99 (k := ?_)
      refine ev_iconst dX12_goesOn_100 (k := ?_)
      obtain ⟨h3, hq, H3⟩ := bd_e H2
      clear H2
      refine ev_callV (mc := 0) (ms := 0) (st := []) (C12_over hq) md_X12_over im_X12_over se_X12_over ml_X12_323 dX12_goesOn_101 _ (by omega) (K := ?_)
      refine ev_goto 113 dX12_goesOn_104 (k := ?_)
      cases H3
      exact ev_return dX12_goesOn_113
  · replace H1 := if_ne hc H1
    refine ev_aload_n 0 dX12_goesOn_59 (k := ?_)
    refine ev_getR (t := 139) (x := some (139, 0)) fl_X12_113 dX12_goesOn_60 (hx := ry_12_39 _ _) (K := ?_)
    refine ev_bipush dX12_goesOn_63 (k := ?_)
    refine ev_iload_n 1 dX12_goesOn_65 (k := ?_)
    refine ev_imul dX12_goesOn_66 (k := ?_)
    refine ev_iload_n 3 dX12_goesOn_67 (k := ?_)
    refine ev_iadd dX12_goesOn_68 (k := ?_)
    refine ev_aload_n 0 dX12_goesOn_69 (k := ?_)
    refine ev_getR (t := 128) (x := some (128, 0)) fl_X12_83 dX12_goesOn_70 (hx := ry_12_28 _ _) (K := ?_)
    refine ev_bipush dX12_goesOn_73 (k := ?_)
    refine ev_iload_n 2 dX12_goesOn_75 (k := ?_)
    refine ev_imul dX12_goesOn_76 (k := ?_)
    refine ev_iload_n 3 dX12_goesOn_77 (k := ?_)
    refine ev_iadd dX12_goesOn_78 (k := ?_)
    obtain ⟨⟨hi0, hi1⟩, H2⟩ := g_e H1
    clear H1
    refine ev_iaload (k := 128) hi0 hi1 dX12_goesOn_79 (hc := ac_128) (hlen := ln_128 _ _) (K := ?_)
    obtain ⟨⟨hi0, hi1⟩, H3⟩ := g_e H2
    clear H2
    obtain ⟨h4, eh4, H4⟩ := lt_e H3
    clear H3
    refine ev_iastore (k := 139) j_ok1 hi0 hi1 eh4 dX12_goesOn_80 (hc := ac_139) (hlen := ln_139 _ _) (K := ?_)
    refine ev_iinc 3 [(3, .inl (w32 (l3 + 1))), (0, .inr (.inr (some (12, 0)))), (1, .inl (l1)), (2, .inl (l2))] dX12_goesOn_81 (k := ?_)
    refine ev_goto 49 dX12_goesOn_84 (k := ?_)
    refine ev_lv [1, 2, 3, 0] [(0, .inr (.inr (some (12, 0)))), (1, .inl (l1)), (2, .inl (l2)), (3, .inl (w32 (l3 + 1)))] (k := ?_)
    exact hk49 l1 l2 (w32 (l3 + 1)) h4 _ H4
theorem E12_goesOn_49 (kp : Int → Int → JM → Option JM) (dk : Nat) (hB : 40 ≤ dk) (hkp : ∀ (c row : Int) (h res : JM), kp c row h = some res → Cn j_W1 dk 0 0 yX12_places cX12_places 4 none [.inr (.inr (some (12, 0))), .inl c, .inl row] h none res) (n : Nat) : ∀ (l1 : Int) (l2 : Int) (l3 : Int) (h : JM) (res : JM), F12_goesOn_49 kp n l1 l2 l3 h = some res → Ev j_W1 (dk + 2) 0 0 T12_goesOn 49 [(0, .inr (.inr (some (12, 0)))), (1, .inl (l1)), (2, .inl (l2)), (3, .inl (l3))] [] h none res := by
  induction n with
  | zero =>
    intro l1 l2 l3 h res H
    cases H
  | succ n ih =>
    intro l1 l2 l3 h res H
    exact E12_goesOn_49b kp dk hB hkp (F12_goesOn_49 kp n) ih l1 l2 l3 h res H
set_option maxRecDepth 100000 in
set_option maxHeartbeats 4000000 in
theorem C12_goesOn (kp : Int → Int → JM → Option JM) (dk : Nat) (hB : 40 ≤ dk) (hkp : ∀ (c row : Int) (h res : JM), kp c row h = some res → Cn j_W1 dk 0 0 yX12_places cX12_places 4 none [.inr (.inr (some (12, 0))), .inl c, .inl row] h none res) {l1 : Int} {l2 : Int} {h : JM} {res : JM} (H : F12_goesOn kp l1 l2 h = some res) : Cn j_W1 (dk + 2) 0 0 yX12_goesOn cX12_goesOn 4 none [.inr (.inr (some (12, 0))), .inl (l1), .inl (l2)] h none res := by
  refine Cn.by (own := RX12) (b := false) [(0, .inr (.inr (some (12, 0)))), (1, .inl (l1)), (2, .inl (l2))] rfl (fun z => by cases z) (by decide +kernel) (K := ?_)
  unfold F12_goesOn at H
  refine ev_aload_n 0 dX12_goesOn_0 (k := ?_)
  refine ev_getR (t := 137) (x := some (137, 0)) fl_X12_107 dX12_goesOn_1 (hx := ry_12_37 _ _) (K := ?_)
  refine ev_iload_n 1 dX12_goesOn_4 (k := ?_)
  refine ev_iconst dX12_goesOn_5 (k := ?_)
  obtain ⟨⟨hi0, hi1⟩, H1⟩ := g_e H
  clear H
  obtain ⟨h5, eh5, H2⟩ := lt_e H1
  clear H1
  refine ev_iastore (k := 137) j_ok1 hi0 hi1 eh5 dX12_goesOn_6 (hc := ac_137) (hlen := ln_137 _ _) (K := ?_)
  refine ev_aload_n 0 dX12_goesOn_7 (k := ?_)
  refine ev_getR (t := 144) (x := some (144, 0)) fl_X12_128 dX12_goesOn_8 (hx := ry_12_44 _ _) (K := ?_)
  refine ev_iload_n 1 dX12_goesOn_11 (k := ?_)
  refine ev_dup2 dX12_goesOn_12 (k := ?_)
  obtain ⟨⟨hi0, hi1⟩, H3⟩ := g_e H2
  clear H2
  refine ev_iaload (k := 144) hi0 hi1 dX12_goesOn_13 (hc := ac_144) (hlen := ln_144 _ _) (K := ?_)
  refine ev_iconst dX12_goesOn_14 (k := ?_)
  refine ev_iadd dX12_goesOn_15 (k := ?_)
  obtain ⟨⟨hi0, hi1⟩, H4⟩ := g_e H3
  clear H3
  obtain ⟨h6, eh6, H5⟩ := lt_e H4
  clear H4
  refine ev_iastore (k := 144) j_ok1 hi0 hi1 eh6 dX12_goesOn_16 (hc := ac_144) (hlen := ln_144 _ _) (K := ?_)
  refine ev_aload_n 0 dX12_goesOn_17 (k := ?_)
  refine ev_getR (t := 144) (x := some (144, 0)) fl_X12_128 dX12_goesOn_18 (hx := ry_12_44 _ _) (K := ?_)
  refine ev_iload_n 1 dX12_goesOn_21 (k := ?_)
  obtain ⟨⟨hi0, hi1⟩, H6⟩ := g_e H5
  clear H5
  refine ev_iaload (k := 144) hi0 hi1 dX12_goesOn_22 (hc := ac_144) (hlen := ln_144 _ _) (K := ?_)
  refine ev_iconst dX12_goesOn_23 (k := ?_)
  refine ev_icmple 35 dX12_goesOn_24 (kt := fun hc => ?_) (kf := fun hc => ?_)
  · replace H6 := if_pe hc H6
    refine ev_aload_n 0 dX12_goesOn_35 (k := ?_)
    refine ev_getR (t := 140) (x := some (140, 0)) fl_X12_116 dX12_goesOn_36 (hx := ry_12_40 _ _) (K := ?_)
    refine ev_iload_n 1 dX12_goesOn_39 (k := ?_)
    refine ev_aload_n 0 dX12_goesOn_40 (k := ?_)
    refine ev_getR (t := 129) (x := some (129, 0)) fl_X12_86 dX12_goesOn_41 (hx := ry_12_29 _ _) (K := ?_)
    refine ev_iload_n 2 dX12_goesOn_44 (k := ?_)
    obtain ⟨⟨hi0, hi1⟩, H7⟩ := g_e H6
    clear H6
    refine ev_iaload (k := 129) hi0 hi1 dX12_goesOn_45 (hc := ac_129) (hlen := ln_129 _ _) (K := ?_)
    obtain ⟨⟨hi0, hi1⟩, H8⟩ := g_e H7
    clear H7
    obtain ⟨h7, eh7, H9⟩ := lt_e H8
    clear H8
    refine ev_iastore (k := 140) j_ok1 hi0 hi1 eh7 dX12_goesOn_46 (hc := ac_140) (hlen := ln_140 _ _) (K := ?_)
    refine ev_iconst dX12_goesOn_47 (k := ?_)
    refine ev_istore_n [(3, .inl (0)), (0, .inr (.inr (some (12, 0)))), (1, .inl (l1)), (2, .inl (l2))] dX12_goesOn_48 (k := ?_)
    refine ev_lv [1, 2, 3, 0] [(0, .inr (.inr (some (12, 0)))), (1, .inl (l1)), (2, .inl (l2)), (3, .inl (0))] (k := ?_)
    exact E12_goesOn_49 kp dk hB hkp j_fu l1 l2 0 h7 _ H9
  · replace H6 := if_ne hc H6
    refine ev_aload_n 0 dX12_goesOn_27 (k := ?_)
    refine ev_iload_n 1 dX12_goesOn_28 (k := ?_)
    refine ev_iconst dX12_goesOn_29 (k := ?_)
    refine ev_iconst dX12_goesOn_30 (k := ?_)
    obtain ⟨h8, hq, H7⟩ := bd_e H6
    clear H6
    refine ev_callV (mc := 0) (ms := 0) (st := []) (C12_over hq) md_X12_over im_X12_over se_X12_over ml_X12_323 dX12_goesOn_31 _ (by omega) (K := ?_)
    cases H7
    exact ev_return dX12_goesOn_34
-- X12_toLine
abbrev T12_toLine : JT := (RX12, cX12_toLine, 4, none, false)
set_option maxRecDepth 100000 in
set_option maxHeartbeats 4000000 in
theorem E12_toLine_53 (kp : Int → Int → JM → Option JM) (dk : Nat) (hB : 40 ≤ dk) (hkp : ∀ (c row : Int) (h res : JM), kp c row h = some res → Cn j_W1 dk 0 0 yX12_places cX12_places 4 none [.inr (.inr (some (12, 0))), .inl c, .inl row] h none res) (l1 : Int) (l2 : Int) (s0 : Int) (h : JM) (res : JM) (H : F12_toLine_53 kp l1 l2 s0 h = some res) : Ev j_W1 (dk + 4) 0 0 T12_toLine 53 [(0, .inr (.inr (some (12, 0)))), (1, .inl (l1)), (2, .inl (l2))] [.inl (s0)] h none res := by
  unfold F12_toLine_53 at H
  refine ev_istore_n [(3, .inl (s0)), (0, .inr (.inr (some (12, 0)))), (1, .inl (l1)), (2, .inl (l2))] dX12_toLine_53 (k := ?_)
  refine ev_aload_n 1 dX12_toLine_54 (k := ?_)
  refine ev_getR (t := 127) (x := some (127, 0)) fl_X12_80 dX12_toLine_55 (hx := ry_12_27 _ _) (K := ?_)
  refine ev_iconst dX12_toLine_58 (k := ?_)
  refine ev_iload_n 3 dX12_toLine_59 (k := ?_)
  refine ev_imul dX12_toLine_60 (k := ?_)
  obtain ⟨⟨hi0, hi1⟩, H1⟩ := g_e H
  clear H
  refine ev_zaload (k := 127) hi0 hi1 dX12_toLine_61 (hc := ac_127) (hlen := ln_127 _ _) (K := ?_)
  refine ev_ifeq 76 dX12_toLine_62 (kt := fun hc => ?_) (kf := fun hc => ?_)
  · replace H1 := if_pe hc H1
    refine ev_aload_n 1 dX12_toLine_76 (k := ?_)
    refine ev_getR (t := 129) (x := some (129, 0)) fl_X12_86 dX12_toLine_77 (hx := ry_12_29 _ _) (K := ?_)
    refine ev_iconst dX12_toLine_80 (k := ?_)
    refine ev_iload_n 3 dX12_toLine_81 (k := ?_)
    refine ev_imul dX12_toLine_82 (k := ?_)
    obtain ⟨⟨hi0, hi1⟩, H2⟩ := g_e H1
    clear H1
    refine ev_iaload (k := 129) hi0 hi1 dX12_toLine_83 (hc := ac_129) (hlen := ln_129 _ _) (K := ?_)
    refine ev_ifle 98 dX12_toLine_84 (kt := fun hc => ?_) (kf := fun hc => ?_)
    · replace H2 := if_pe hc H2
      refine ev_aload_n 1 dX12_toLine_98 (k := ?_)
      refine ev_iload_n 3 dX12_toLine_99 (k := ?_)
      obtain ⟨q1, hq, H3⟩ := bd_e H2
      clear H2
      refine ev_callV (mc := 0) (ms := 0) (st := []) (C12_isFree hq) md_X12_isFree im_X12_isFree se_X12_isFree ml_X12_370 dX12_toLine_100 _ (by omega) (K := ?_)
      refine ev_ifeq 123 dX12_toLine_103 (kt := fun hc => ?_) (kf := fun hc => ?_)
      · replace H3 := if_pe hc H3
        refine ev_iload_n 0 dX12_toLine_123 (k := ?_)
        refine ev_ifeq 144 dX12_toLine_124 (kt := fun hc => ?_) (kf := fun hc => ?_)
        · replace H3 := if_pe hc H3
          refine ev_aload_n 1 dX12_toLine_144 (k := ?_)
          refine ev_getR (t := 129) (x := some (129, 0)) fl_X12_86 dX12_toLine_145 (hx := ry_12_29 _ _) (K := ?_)
          refine ev_iconst dX12_toLine_148 (k := ?_)
          refine ev_iload_n 3 dX12_toLine_149 (k := ?_)
          refine ev_imul dX12_toLine_150 (k := ?_)
          refine ev_iconst dX12_toLine_151 (k := ?_)
          refine ev_iadd dX12_toLine_152 (k := ?_)
          obtain ⟨⟨hi0, hi1⟩, H4⟩ := g_e H3
          clear H3
          refine ev_iaload (k := 129) hi0 hi1 dX12_toLine_153 (hc := ac_129) (hlen := ln_129 _ _) (K := ?_)
          refine ev_ifle 170 dX12_toLine_154 (kt := fun hc => ?_) (kf := fun hc => ?_)
          · replace H4 := if_pe hc H4
            refine ev_aload_n 1 dX12_toLine_170 (k := ?_)
            refine ev_iload_n 2 dX12_toLine_171 (k := ?_)
            refine ev_iconst dX12_toLine_172 (k := ?_)
            refine ev_iconst dX12_toLine_173 (k := ?_)
            obtain ⟨h2, hq, H5⟩ := bd_e H4
            clear H4
            refine ev_callV (mc := 0) (ms := 0) (st := []) (C12_over hq) md_X12_over im_X12_over se_X12_over ml_X12_323 dX12_toLine_174 _ (by omega) (K := ?_)
            cases H5
            exact ev_return dX12_toLine_177
          · replace H4 := if_ne hc H4
            refine ev_aload_n 1 dX12_toLine_157 (k := ?_)
            refine ev_iload_n 2 dX12_toLine_158 (k := ?_)
            refine ev_iconst dX12_toLine_159 (k := ?_)
            refine ev_iload_n 3 dX12_toLine_160 (k := ?_)
            refine ev_imul dX12_toLine_161 (k := ?_)
            refine ev_iconst dX12_toLine_162 (k := ?_)
            refine ev_iadd dX12_toLine_163 (k := ?_)
            obtain ⟨h3, hq, H5⟩ := bd_e H4
            clear H4
            refine ev_callV (mc := 0) (ms := 0) (st := []) (C12_goesOn kp dk hB hkp hq) md_X12_goesOn im_X12_goesOn se_X12_goesOn ml_X12_367 dX12_toLine_164 _ (by omega) (K := ?_)
            refine ev_goto 177 dX12_toLine_167 (k := ?_)
            cases H5
            exact ev_return dX12_toLine_177
        · replace H3 := if_ne hc H3
          refine ev_aload_n 1 dX12_toLine_127 (k := ?_)
          refine ev_getR (t := 120) (x := some (120, 0)) fl_X12_59 dX12_toLine_128 (hx := ry_12_20 _ _) (K := ?_)
          refine ev_iload_n 3 dX12_toLine_131 (k := ?_)
          refine ev_iload_n 2 dX12_toLine_132 (k := ?_)
          obtain ⟨⟨hi0, hi1⟩, H4⟩ := g_e H3
          clear H3
          obtain ⟨h4, eh4, H5⟩ := lt_e H4
          clear H4
          refine ev_iastore (k := 120) j_ok1 hi0 hi1 eh4 dX12_toLine_133 (hc := ac_120) (hlen := ln_120 _ _) (K := ?_)
          refine ev_aload_n 1 dX12_toLine_134 (k := ?_)
          refine ev_iload_n 2 dX12_toLine_135 (k := ?_)
          refine ev_iload_n 3 dX12_toLine_136 (k := ?_)
          refine ev_iconst dX12_toLine_137 (k := ?_)
          obtain ⟨h5, hq, H6⟩ := bd_e H5
          clear H5
          refine ev_callV (mc := 0) (ms := 0) (st := []) (C12_rings hq) md_X12_rings im_X12_rings se_X12_rings ml_X12_373 dX12_toLine_138 _ (by omega) (K := ?_)
          refine ev_goto 177 dX12_toLine_141 (k := ?_)
          cases H6
          exact ev_return dX12_toLine_177
      · replace H3 := if_ne hc H3
        refine ev_aload_n 1 dX12_toLine_106 (k := ?_)
        refine ev_getR (t := 121) (x := some (121, 0)) fl_X12_62 dX12_toLine_107 (hx := ry_12_21 _ _) (K := ?_)
        refine ev_iload_n 3 dX12_toLine_110 (k := ?_)
        refine ev_iload_n 2 dX12_toLine_111 (k := ?_)
        obtain ⟨⟨hi0, hi1⟩, H4⟩ := g_e H3
        clear H3
        obtain ⟨h6, eh6, H5⟩ := lt_e H4
        clear H4
        refine ev_iastore (k := 121) j_ok1 hi0 hi1 eh6 dX12_toLine_112 (hc := ac_121) (hlen := ln_121 _ _) (K := ?_)
        refine ev_aload_n 1 dX12_toLine_113 (k := ?_)
        refine ev_iload_n 2 dX12_toLine_114 (k := ?_)
        refine ev_iload_n 3 dX12_toLine_115 (k := ?_)
        refine ev_iconst dX12_toLine_116 (k := ?_)
        obtain ⟨h7, hq, H6⟩ := bd_e H5
        clear H5
        refine ev_callV (mc := 0) (ms := 0) (st := []) (C12_rings hq) md_X12_rings im_X12_rings se_X12_rings ml_X12_373 dX12_toLine_117 _ (by omega) (K := ?_)
        refine ev_goto 177 dX12_toLine_120 (k := ?_)
        cases H6
        exact ev_return dX12_toLine_177
    · replace H2 := if_ne hc H2
      refine ev_aload_n 1 dX12_toLine_87 (k := ?_)
      refine ev_iload_n 2 dX12_toLine_88 (k := ?_)
      refine ev_iconst dX12_toLine_89 (k := ?_)
      refine ev_iload_n 3 dX12_toLine_90 (k := ?_)
      refine ev_imul dX12_toLine_91 (k := ?_)
      obtain ⟨h8, hq, H3⟩ := bd_e H2
      clear H2
      refine ev_callV (mc := 0) (ms := 0) (st := []) (C12_goesOn kp dk hB hkp hq) md_X12_goesOn im_X12_goesOn se_X12_goesOn ml_X12_367 dX12_toLine_92 _ (by omega) (K := ?_)
      refine ev_goto 177 dX12_toLine_95 (k := ?_)
      cases H3
      exact ev_return dX12_toLine_177
  · replace H1 := if_ne hc H1
    refine ev_aload_n 1 dX12_toLine_65 (k := ?_)
    refine ev_iload_n 2 dX12_toLine_66 (k := ?_)
    refine ev_bipush dX12_toLine_67 (k := ?_)
    refine ev_iconst dX12_toLine_69 (k := ?_)
    obtain ⟨h9, hq, H2⟩ := bd_e H1
    clear H1
    refine ev_callV (mc := 0) (ms := 0) (st := []) (C12_over hq) md_X12_over im_X12_over se_X12_over ml_X12_323 dX12_toLine_70 _ (by omega) (K := ?_)
    refine ev_goto 177 dX12_toLine_73 (k := ?_)
    cases H2
    exact ev_return dX12_toLine_177
set_option maxRecDepth 100000 in
set_option maxHeartbeats 4000000 in
theorem E12_toLine_52 (kp : Int → Int → JM → Option JM) (dk : Nat) (hB : 40 ≤ dk) (hkp : ∀ (c row : Int) (h res : JM), kp c row h = some res → Cn j_W1 dk 0 0 yX12_places cX12_places 4 none [.inr (.inr (some (12, 0))), .inl c, .inl row] h none res) (l1 : Int) (l2 : Int) (h : JM) (res : JM) (H : F12_toLine_52 kp l1 l2 h = some res) : Ev j_W1 (dk + 4) 0 0 T12_toLine 52 [(0, .inr (.inr (some (12, 0)))), (1, .inl (l1)), (2, .inl (l2))] [] h none res := by
  unfold F12_toLine_52 at H
  refine ev_iconst dX12_toLine_52 (k := ?_)
  exact E12_toLine_53 kp dk hB hkp l1 l2 0 h _ H
set_option maxRecDepth 100000 in
set_option maxHeartbeats 4000000 in
theorem C12_toLine (kp : Int → Int → JM → Option JM) (dk : Nat) (hB : 40 ≤ dk) (hkp : ∀ (c row : Int) (h res : JM), kp c row h = some res → Cn j_W1 dk 0 0 yX12_places cX12_places 4 none [.inr (.inr (some (12, 0))), .inl c, .inl row] h none res) {l1 : Int} {l2 : Int} {h : JM} {res : JM} (H : F12_toLine kp l1 l2 h = some res) : Cn j_W1 (dk + 4) 0 0 yX12_toLine cX12_toLine 4 none [.inr (.inr (some (12, 0))), .inl (l1), .inl (l2)] h none res := by
  refine Cn.by (own := RX12) (b := false) [(0, .inr (.inr (some (12, 0)))), (1, .inl (l1)), (2, .inl (l2))] rfl (fun z => by cases z) (by decide +kernel) (K := ?_)
  unfold F12_toLine at H
  refine ev_aload_n 0 dX12_toLine_0 (k := ?_)
  refine ev_getR (t := 127) (x := some (127, 0)) fl_X12_80 dX12_toLine_1 (hx := ry_12_27 _ _) (K := ?_)
  refine ev_iconst dX12_toLine_4 (k := ?_)
  refine ev_iload_n 2 dX12_toLine_5 (k := ?_)
  refine ev_imul dX12_toLine_6 (k := ?_)
  refine ev_iconst dX12_toLine_7 (k := ?_)
  refine ev_iadd dX12_toLine_8 (k := ?_)
  obtain ⟨⟨hi0, hi1⟩, H1⟩ := g_e H
  clear H
  refine ev_zaload (k := 127) hi0 hi1 dX12_toLine_9 (hc := ac_127) (hlen := ln_127 _ _) (K := ?_)
  refine ev_ifeq 52 dX12_toLine_10 (kt := fun hc => ?_) (kf := fun hc => ?_)
  · replace H1 := if_pe hc H1
    exact E12_toLine_52 kp dk hB hkp l1 l2 h _ H1
  · replace H1 := if_ne hc H1
    refine ev_aload_n 0 dX12_toLine_13 (k := ?_)
    refine ev_getR (t := 119) (x := some (119, 0)) fl_X12_56 dX12_toLine_14 (hx := ry_12_19 _ _) (K := ?_)
    refine ev_iload_n 2 dX12_toLine_17 (k := ?_)
    obtain ⟨⟨hi0, hi1⟩, H2⟩ := g_e H1
    clear H1
    refine ev_iaload (k := 119) hi0 hi1 dX12_toLine_18 (hc := ac_119) (hlen := ln_119 _ _) (K := ?_)
    refine ev_iconst dX12_toLine_19 (k := ?_)
    refine ev_icmpeq 52 dX12_toLine_20 (kt := fun hc => ?_) (kf := fun hc => ?_)
    · replace H2 := if_pe hc H2
      exact E12_toLine_52 kp dk hB hkp l1 l2 h _ H2
    · replace H2 := if_ne hc H2
      refine ev_aload_n 0 dX12_toLine_23 (k := ?_)
      refine ev_getR (t := 133) (x := some (133, 0)) fl_X12_95 dX12_toLine_24 (hx := ry_12_33 _ _) (K := ?_)
      refine ev_aload_n 0 dX12_toLine_27 (k := ?_)
      refine ev_getR (t := 119) (x := some (119, 0)) fl_X12_56 dX12_toLine_28 (hx := ry_12_19 _ _) (K := ?_)
      refine ev_iload_n 2 dX12_toLine_31 (k := ?_)
      obtain ⟨⟨hi0, hi1⟩, H3⟩ := g_e H2
      clear H2
      refine ev_iaload (k := 119) hi0 hi1 dX12_toLine_32 (hc := ac_119) (hlen := ln_119 _ _) (K := ?_)
      obtain ⟨⟨hi0, hi1⟩, H4⟩ := g_e H3
      clear H3
      refine ev_iaload (k := 133) hi0 hi1 dX12_toLine_33 (hc := ac_133) (hlen := ln_133 _ _) (K := ?_)
      refine ev_iconst dX12_toLine_34 (k := ?_)
      refine ev_icmpne 52 dX12_toLine_35 (kt := fun hc => ?_) (kf := fun hc => ?_)
      · replace H4 := if_ne hc H4
        exact E12_toLine_52 kp dk hB hkp l1 l2 h _ H4
      · replace H4 := if_pe hc H4
        refine ev_aload_n 0 dX12_toLine_38 (k := ?_)
        refine ev_getR (t := 120) (x := some (120, 0)) fl_X12_59 dX12_toLine_39 (hx := ry_12_20 _ _) (K := ?_)
        refine ev_iload_n 2 dX12_toLine_42 (k := ?_)
        obtain ⟨⟨hi0, hi1⟩, H5⟩ := g_e H4
        clear H4
        refine ev_iaload (k := 120) hi0 hi1 dX12_toLine_43 (hc := ac_120) (hlen := ln_120 _ _) (K := ?_)
        refine ev_iconst dX12_toLine_44 (k := ?_)
        refine ev_icmpne 52 dX12_toLine_45 (kt := fun hc => ?_) (kf := fun hc => ?_)
        · replace H5 := if_ne hc H5
          exact E12_toLine_52 kp dk hB hkp l1 l2 h _ H5
        · replace H5 := if_pe hc H5
          refine ev_iconst dX12_toLine_48 (k := ?_)
          refine ev_goto 53 dX12_toLine_49 (k := ?_)
          exact E12_toLine_53 kp dk hB hkp l1 l2 1 h _ H5
-- X12_inRoom
abbrev T12_inRoom : JT := (RX12, cX12_inRoom, 5, some .int, false)
set_option maxRecDepth 100000 in
set_option maxHeartbeats 4000000 in
theorem E12_inRoom_55 (k5 : Int → Int → Int → Int → JM → Option (Int × JM)) (hk5 : ∀ (l1 : Int) (l2 : Int) (l3 : Int) (l4 : Int) (h : JM) (res : (Int × JM)), k5 l1 l2 l3 l4 h = some res → Ev j_W1 1 0 0 T12_inRoom 5 [(0, .inr (.inr (some (12, 0)))), (1, .inl (l1)), (2, .inl (l2)), (3, .inl (l3)), (4, .inl (l4))] [] h (some (.inl res.1)) res.2) (l1 : Int) (l2 : Int) (l4 : Int) (s0 : Int) (s1 : Int) (h : JM) (res : (Int × JM)) (H : F12_inRoom_55 k5 l1 l2 l4 s0 s1 h = some res) : Ev j_W1 1 0 0 T12_inRoom 55 [(0, .inr (.inr (some (12, 0)))), (1, .inl (l1)), (2, .inl (l2)), (4, .inl (l4))] [.inl (s1), .inl (s0)] h (some (.inl res.1)) res.2 := by
  unfold F12_inRoom_55 at H
  refine ev_iadd dX12_inRoom_55 (k := ?_)
  obtain ⟨x1, ex1, H1⟩ := lt_e H
  clear H
  refine ev_topI ex1 ?_
  refine ev_istore_n [(3, .inl (x1)), (0, .inr (.inr (some (12, 0)))), (1, .inl (l1)), (2, .inl (l2)), (4, .inl (l4))] dX12_inRoom_56 (k := ?_)
  refine ev_iinc 4 [(4, .inl (w32 (l4 + 1))), (3, .inl (x1)), (0, .inr (.inr (some (12, 0)))), (1, .inl (l1)), (2, .inl (l2))] dX12_inRoom_57 (k := ?_)
  refine ev_goto 5 dX12_inRoom_60 (k := ?_)
  refine ev_lv [2, 3, 4, 1, 0] [(0, .inr (.inr (some (12, 0)))), (1, .inl (l1)), (2, .inl (l2)), (3, .inl (x1)), (4, .inl (w32 (l4 + 1)))] (k := ?_)
  exact hk5 l1 l2 x1 (w32 (l4 + 1)) h _ H1
set_option maxRecDepth 100000 in
set_option maxHeartbeats 4000000 in
theorem E12_inRoom_54 (k5 : Int → Int → Int → Int → JM → Option (Int × JM)) (hk5 : ∀ (l1 : Int) (l2 : Int) (l3 : Int) (l4 : Int) (h : JM) (res : (Int × JM)), k5 l1 l2 l3 l4 h = some res → Ev j_W1 1 0 0 T12_inRoom 5 [(0, .inr (.inr (some (12, 0)))), (1, .inl (l1)), (2, .inl (l2)), (3, .inl (l3)), (4, .inl (l4))] [] h (some (.inl res.1)) res.2) (l1 : Int) (l2 : Int) (l4 : Int) (s0 : Int) (h : JM) (res : (Int × JM)) (H : F12_inRoom_54 k5 l1 l2 l4 s0 h = some res) : Ev j_W1 1 0 0 T12_inRoom 54 [(0, .inr (.inr (some (12, 0)))), (1, .inl (l1)), (2, .inl (l2)), (4, .inl (l4))] [.inl (s0)] h (some (.inl res.1)) res.2 := by
  unfold F12_inRoom_54 at H
  refine ev_iconst dX12_inRoom_54 (k := ?_)
  exact E12_inRoom_55 k5 hk5 l1 l2 l4 s0 0 h _ H
set_option maxRecDepth 100000 in
set_option maxHeartbeats 4000000 in
theorem E12_inRoom_5b (k5 : Int → Int → Int → Int → JM → Option (Int × JM)) (hk5 : ∀ (l1 : Int) (l2 : Int) (l3 : Int) (l4 : Int) (h : JM) (res : (Int × JM)), k5 l1 l2 l3 l4 h = some res → Ev j_W1 1 0 0 T12_inRoom 5 [(0, .inr (.inr (some (12, 0)))), (1, .inl (l1)), (2, .inl (l2)), (3, .inl (l3)), (4, .inl (l4))] [] h (some (.inl res.1)) res.2) (l1 : Int) (l2 : Int) (l3 : Int) (l4 : Int) (h : JM) (res : (Int × JM)) (H : F12_inRoom_5b k5 l1 l2 l3 l4 h = some res) : Ev j_W1 1 0 0 T12_inRoom 5 [(0, .inr (.inr (some (12, 0)))), (1, .inl (l1)), (2, .inl (l2)), (3, .inl (l3)), (4, .inl (l4))] [] h (some (.inl res.1)) res.2 := by
  unfold F12_inRoom_5b at H
  refine ev_iload 4 dX12_inRoom_5 (k := ?_)
  refine ev_bipush dX12_inRoom_7 (k := ?_)
  refine ev_icmpge 63 dX12_inRoom_9 (kt := fun hc => ?_) (kf := fun hc => ?_)
  · replace H := if_pe hc H
    refine ev_iload_n 3 dX12_inRoom_63 (k := ?_)
    cases H
    exact ev_ireturn dX12_inRoom_64
  · replace H := if_ne hc H
    refine ev_iload_n 3 dX12_inRoom_12 (k := ?_)
    refine ev_aload_n 0 dX12_inRoom_13 (k := ?_)
    refine ev_getR (t := 133) (x := some (133, 0)) fl_X12_95 dX12_inRoom_14 (hx := ry_12_33 _ _) (K := ?_)
    refine ev_iload 4 dX12_inRoom_17 (k := ?_)
    obtain ⟨⟨hi0, hi1⟩, H1⟩ := g_e H
    clear H
    refine ev_iaload (k := 133) hi0 hi1 dX12_inRoom_19 (hc := ac_133) (hlen := ln_133 _ _) (K := ?_)
    refine ev_iconst dX12_inRoom_20 (k := ?_)
    refine ev_icmpne 54 dX12_inRoom_21 (kt := fun hc => ?_) (kf := fun hc => ?_)
    · replace H1 := if_ne hc H1
      refine ev_lv [0, 1, 2, 4] [(0, .inr (.inr (some (12, 0)))), (1, .inl (l1)), (2, .inl (l2)), (4, .inl (l4))] (k := ?_)
      exact E12_inRoom_54 k5 hk5 l1 l2 l4 l3 h _ H1
    · replace H1 := if_pe hc H1
      refine ev_aload_n 0 dX12_inRoom_24 (k := ?_)
      refine ev_getR (t := 135) (x := some (135, 0)) fl_X12_101 dX12_inRoom_25 (hx := ry_12_35 _ _) (K := ?_)
      refine ev_iload 4 dX12_inRoom_28 (k := ?_)
      obtain ⟨⟨hi0, hi1⟩, H2⟩ := g_e H1
      clear H1
      refine ev_iaload (k := 135) hi0 hi1 dX12_inRoom_30 (hc := ac_135) (hlen := ln_135 _ _) (K := ?_)
      refine ev_iload_n 1 dX12_inRoom_31 (k := ?_)
      refine ev_icmpne 54 dX12_inRoom_32 (kt := fun hc => ?_) (kf := fun hc => ?_)
      · replace H2 := if_ne hc H2
        refine ev_lv [0, 1, 2, 4] [(0, .inr (.inr (some (12, 0)))), (1, .inl (l1)), (2, .inl (l2)), (4, .inl (l4))] (k := ?_)
        exact E12_inRoom_54 k5 hk5 l1 l2 l4 l3 h _ H2
      · replace H2 := if_pe hc H2
        refine ev_aload_n 0 dX12_inRoom_35 (k := ?_)
        refine ev_getR (t := 137) (x := some (137, 0)) fl_X12_107 dX12_inRoom_36 (hx := ry_12_37 _ _) (K := ?_)
        refine ev_iload 4 dX12_inRoom_39 (k := ?_)
        obtain ⟨⟨hi0, hi1⟩, H3⟩ := g_e H2
        clear H2
        refine ev_iaload (k := 137) hi0 hi1 dX12_inRoom_41 (hc := ac_137) (hlen := ln_137 _ _) (K := ?_)
        refine ev_sipush dX12_inRoom_42 (k := ?_)
        refine ev_iload_n 2 dX12_inRoom_45 (k := ?_)
        refine ev_iadd dX12_inRoom_46 (k := ?_)
        refine ev_icmpne 54 dX12_inRoom_47 (kt := fun hc => ?_) (kf := fun hc => ?_)
        · replace H3 := if_ne hc H3
          refine ev_lv [0, 1, 2, 4] [(0, .inr (.inr (some (12, 0)))), (1, .inl (l1)), (2, .inl (l2)), (4, .inl (l4))] (k := ?_)
          exact E12_inRoom_54 k5 hk5 l1 l2 l4 l3 h _ H3
        · replace H3 := if_pe hc H3
          refine ev_iconst dX12_inRoom_50 (k := ?_)
          refine ev_goto 55 dX12_inRoom_51 (k := ?_)
          refine ev_lv [0, 1, 2, 4] [(0, .inr (.inr (some (12, 0)))), (1, .inl (l1)), (2, .inl (l2)), (4, .inl (l4))] (k := ?_)
          exact E12_inRoom_55 k5 hk5 l1 l2 l4 l3 1 h _ H3
theorem E12_inRoom_5 (n : Nat) : ∀ (l1 : Int) (l2 : Int) (l3 : Int) (l4 : Int) (h : JM) (res : (Int × JM)), F12_inRoom_5 n l1 l2 l3 l4 h = some res → Ev j_W1 1 0 0 T12_inRoom 5 [(0, .inr (.inr (some (12, 0)))), (1, .inl (l1)), (2, .inl (l2)), (3, .inl (l3)), (4, .inl (l4))] [] h (some (.inl res.1)) res.2 := by
  induction n with
  | zero =>
    intro l1 l2 l3 l4 h res H
    cases H
  | succ n ih =>
    intro l1 l2 l3 l4 h res H
    exact E12_inRoom_5b (F12_inRoom_5 n) ih l1 l2 l3 l4 h res H
set_option maxRecDepth 100000 in
set_option maxHeartbeats 4000000 in
theorem C12_inRoom {l1 : Int} {l2 : Int} {h : JM} {res : (Int × JM)} (H : F12_inRoom l1 l2 h = some res) : Cn j_W1 1 0 0 yX12_inRoom cX12_inRoom 5 (some .int) [.inr (.inr (some (12, 0))), .inl (l1), .inl (l2)] h (some (.inl res.1)) res.2 := by
  refine Cn.by (own := RX12) (b := false) [(0, .inr (.inr (some (12, 0)))), (1, .inl (l1)), (2, .inl (l2))] rfl (fun z => by cases z) (by decide +kernel) (K := ?_)
  unfold F12_inRoom at H
  refine ev_iconst dX12_inRoom_0 (k := ?_)
  refine ev_istore_n [(3, .inl (0)), (0, .inr (.inr (some (12, 0)))), (1, .inl (l1)), (2, .inl (l2))] dX12_inRoom_1 (k := ?_)
  refine ev_iconst dX12_inRoom_2 (k := ?_)
  refine ev_istore [(4, .inl (0)), (3, .inl (0)), (0, .inr (.inr (some (12, 0)))), (1, .inl (l1)), (2, .inl (l2))] dX12_inRoom_3 (k := ?_)
  refine ev_lv [2, 3, 4, 1, 0] [(0, .inr (.inr (some (12, 0)))), (1, .inl (l1)), (2, .inl (l2)), (3, .inl (0)), (4, .inl (0))] (k := ?_)
  exact E12_inRoom_5 j_fu l1 l2 0 0 h _ H
-- X12_toRoom
abbrev T12_toRoom : JT := (RX12, cX12_toRoom, 3, none, false)
set_option maxRecDepth 100000 in
set_option maxHeartbeats 4000000 in
theorem C12_toRoom {l1 : Int} {l2 : Int} {h : JM} {res : JM} (H : F12_toRoom l1 l2 h = some res) : Cn j_W1 6 0 0 yX12_toRoom cX12_toRoom 3 none [.inr (.inr (some (12, 0))), .inl (l1), .inl (l2)] h none res := by
  refine Cn.by (own := RX12) (b := false) [(0, .inr (.inr (some (12, 0)))), (1, .inl (l1)), (2, .inl (l2))] rfl (fun z => by cases z) (by decide +kernel) (K := ?_)
  unfold F12_toRoom at H
  refine ev_aload_n 0 dX12_toRoom_0 (k := ?_)
  refine ev_aload_n 0 dX12_toRoom_1 (k := ?_)
  refine ev_getR (t := 135) (x := some (135, 0)) fl_X12_101 dX12_toRoom_2 (hx := ry_12_35 _ _) (K := ?_)
  refine ev_iload_n 1 dX12_toRoom_5 (k := ?_)
  obtain ⟨⟨hi0, hi1⟩, H1⟩ := g_e H
  clear H
  refine ev_iaload (k := 135) hi0 hi1 dX12_toRoom_6 (hc := ac_135) (hlen := ln_135 _ _) (K := ?_)
  refine ev_iload_n 2 dX12_toRoom_7 (k := ?_)
  obtain ⟨q1, hq, H2⟩ := bd_e H1
  clear H1
  refine ev_callV (mc := 0) (ms := 0) (st := []) (C12_inRoom hq) md_X12_inRoom im_X12_inRoom se_X12_inRoom ml_X12_376 dX12_toRoom_8 _ (by decide) (K := ?_)
  refine ev_bipush dX12_toRoom_11 (k := ?_)
  refine ev_icmpne 24 dX12_toRoom_13 (kt := fun hc => ?_) (kf := fun hc => ?_)
  · replace H2 := if_ne hc H2
    refine ev_aload_n 0 dX12_toRoom_24 (k := ?_)
    refine ev_getR (t := 137) (x := some (137, 0)) fl_X12_107 dX12_toRoom_25 (hx := ry_12_37 _ _) (K := ?_)
    refine ev_iload_n 1 dX12_toRoom_28 (k := ?_)
    refine ev_sipush dX12_toRoom_29 (k := ?_)
    refine ev_iload_n 2 dX12_toRoom_32 (k := ?_)
    refine ev_iadd dX12_toRoom_33 (k := ?_)
    obtain ⟨⟨hi0, hi1⟩, H3⟩ := g_e H2
    clear H2
    obtain ⟨h2, eh2, H4⟩ := lt_e H3
    clear H3
    refine ev_iastore (k := 137) j_ok1 hi0 hi1 eh2 dX12_toRoom_34 (hc := ac_137) (hlen := ln_137 _ _) (K := ?_)
    refine ev_aload_n 0 dX12_toRoom_35 (k := ?_)
    refine ev_iload_n 1 dX12_toRoom_36 (k := ?_)
    obtain ⟨h3, hq, H5⟩ := bd_e H4
    clear H4
    refine ev_callV (mc := 0) (ms := 0) (st := []) (C12_answered hq) md_X12_answered im_X12_answered se_X12_answered ml_X12_320 dX12_toRoom_37 _ (by decide) (K := ?_)
    cases H5
    exact ev_return dX12_toRoom_40
  · replace H2 := if_pe hc H2
    refine ev_aload_n 0 dX12_toRoom_16 (k := ?_)
    refine ev_iload_n 1 dX12_toRoom_17 (k := ?_)
    refine ev_iconst dX12_toRoom_18 (k := ?_)
    refine ev_iconst dX12_toRoom_19 (k := ?_)
    obtain ⟨h4, hq, H3⟩ := bd_e H2
    clear H2
    refine ev_callV (mc := 0) (ms := 0) (st := []) (C12_over hq) md_X12_over im_X12_over se_X12_over ml_X12_323 dX12_toRoom_20 _ (by decide) (K := ?_)
    cases H3
    exact ev_return dX12_toRoom_23
-- X12_places
abbrev T12_places : JT := (RX12, cX12_places, 4, none, false)
set_option maxRecDepth 100000 in
set_option maxHeartbeats 4000000 in
theorem E12_places_30 (kp : Int → Int → JM → Option JM) (dk : Nat) (hB : 40 ≤ dk) (hkp : ∀ (c row : Int) (h res : JM), kp c row h = some res → Cn j_W1 dk 0 0 yX12_places cX12_places 4 none [.inr (.inr (some (12, 0))), .inl c, .inl row] h none res) (l1 : Int) (l2 : Int) (s0 : Option Int) (s1 : Int) (s2 : Int) (h : JM) (res : JM) (H : F12_places_30 kp l1 l2 s0 s1 s2 h = some res) : Ev j_W1 (dk + 6) 0 0 T12_places 30 [(0, .inr (.inr (some (12, 0)))), (1, .inl (l1)), (2, .inl (l2))] [.inl (s2), .inl (s1), .inr (.inr (Option.map (Prod.mk 143) (s0)))] h none res := by
  unfold F12_places_30 at H
  obtain ⟨a1, ea1, H1⟩ := bd_e H
  clear H
  rw [ea1]
  obtain ⟨⟨hi0, hi1⟩, H2⟩ := g_e H1
  clear H1
  obtain ⟨h2, eh2, H3⟩ := lt_e H2
  clear H2
  refine ev_iastore (k := 143) j_ok1 hi0 hi1 eh2 dX12_places_30 (hc := ac_143) (hlen := ln_143 _ _) (K := ?_)
  refine ev_aload_n 0 dX12_places_31 (k := ?_)
  refine ev_getR (t := 110) (x := some (110, 0)) fl_X12_28 dX12_places_32 (hx := ry_12_10 _ _) (K := ?_)
  refine ev_iload_n 2 dX12_places_35 (k := ?_)
  obtain ⟨⟨hi0, hi1⟩, H4⟩ := g_e H3
  clear H3
  refine ev_iaload (k := 110) hi0 hi1 dX12_places_36 (hc := ac_110) (hlen := ln_110 _ _) (K := ?_)
  obtain ⟨x3, ex3, H5⟩ := lt_e H4
  clear H4
  refine ev_topI ex3 ?_
  refine ev_istore_n [(3, .inl (x3)), (0, .inr (.inr (some (12, 0)))), (1, .inl (l1)), (2, .inl (l2))] dX12_places_37 (k := ?_)
  refine ev_aload_n 1 dX12_places_38 (k := ?_)
  refine ev_getR (t := 109) (x := some (109, 0)) fl_X12_25 dX12_places_39 (hx := ry_12_9 _ _) (K := ?_)
  refine ev_iload_n 3 dX12_places_42 (k := ?_)
  obtain ⟨⟨hi0, hi1⟩, H6⟩ := g_e H5
  clear H5
  refine ev_iaload (k := 109) hi0 hi1 dX12_places_43 (hc := ac_109) (hlen := ln_109 _ _) (K := ?_)
  by_cases hs0 : h2.1 109 0 l2 = 0
  · replace H6 := if_pe hs0 H6
    refine ev_tableIn (off := 32) 76 dX12_places_44 (by omega) (by omega) (by rw [hs0]; rfl) (k := ?_)
    refine ev_aload_n 1 dX12_places_76 (k := ?_)
    refine ev_iload_n 2 dX12_places_77 (k := ?_)
    refine ev_iload_n 0 dX12_places_78 (k := ?_)
    obtain ⟨h4, hq, H7⟩ := bd_e H6
    clear H6
    refine ev_callV (mc := 0) (ms := 0) (st := []) (C12_toLine kp dk hB hkp hq) md_X12_toLine im_X12_toLine se_X12_toLine ml_X12_337 dX12_places_79 _ (by omega) (K := ?_)
    refine ev_goto 127 dX12_places_82 (k := ?_)
    cases H7
    exact ev_return dX12_places_127
  · replace H6 := if_ne hs0 H6
    by_cases hs1 : h2.1 109 0 l2 = 1
    · replace H6 := if_pe hs1 H6
      refine ev_tableIn (off := 41) 85 dX12_places_44 (by omega) (by omega) (by rw [hs1]; rfl) (k := ?_)
      refine ev_aload_n 1 dX12_places_85 (k := ?_)
      refine ev_getR (t := 141) (x := some (141, 0)) fl_X12_119 dX12_places_86 (hx := ry_12_41 _ _) (K := ?_)
      refine ev_iload_n 2 dX12_places_89 (k := ?_)
      refine ev_iload_n 0 dX12_places_90 (k := ?_)
      obtain ⟨⟨hi0, hi1⟩, H7⟩ := g_e H6
      clear H6
      obtain ⟨h5, eh5, H8⟩ := lt_e H7
      clear H7
      refine ev_iastore (k := 141) j_ok1 hi0 hi1 eh5 dX12_places_91 (hc := ac_141) (hlen := ln_141 _ _) (K := ?_)
      refine ev_aload_n 1 dX12_places_92 (k := ?_)
      refine ev_getR (t := 142) (x := some (142, 0)) fl_X12_122 dX12_places_93 (hx := ry_12_42 _ _) (K := ?_)
      refine ev_iload_n 2 dX12_places_96 (k := ?_)
      refine ev_aload_n 1 dX12_places_97 (k := ?_)
      refine ev_getR (t := 109) (x := some (109, 0)) fl_X12_25 dX12_places_98 (hx := ry_12_9 _ _) (K := ?_)
      refine ev_iload_n 3 dX12_places_101 (k := ?_)
      obtain ⟨⟨hi0, hi1⟩, H9⟩ := g_e H8
      clear H8
      refine ev_iaload (k := 109) hi0 hi1 dX12_places_102 (hc := ac_109) (hlen := ln_109 _ _) (K := ?_)
      obtain ⟨⟨hi0, hi1⟩, H10⟩ := g_e H9
      clear H9
      obtain ⟨h6, eh6, H11⟩ := lt_e H10
      clear H10
      refine ev_iastore (k := 142) j_ok1 hi0 hi1 eh6 dX12_places_103 (hc := ac_142) (hlen := ln_142 _ _) (K := ?_)
      refine ev_aload_n 1 dX12_places_104 (k := ?_)
      refine ev_iload_n 2 dX12_places_105 (k := ?_)
      obtain ⟨h7, hq, H12⟩ := bd_e H11
      clear H11
      refine ev_callV (mc := 0) (ms := 0) (st := []) (C12_toFar hq) md_X12_toFar im_X12_toFar se_X12_toFar ml_X12_340 dX12_places_106 _ (by omega) (K := ?_)
      refine ev_goto 127 dX12_places_109 (k := ?_)
      cases H12
      exact ev_return dX12_places_127
    · replace H6 := if_ne hs1 H6
      by_cases hs2 : h2.1 109 0 l2 = 2
      · replace H6 := if_pe hs2 H6
        refine ev_tableIn (off := 41) 85 dX12_places_44 (by omega) (by omega) (by rw [hs2]; rfl) (k := ?_)
        refine ev_aload_n 1 dX12_places_85 (k := ?_)
        refine ev_getR (t := 141) (x := some (141, 0)) fl_X12_119 dX12_places_86 (hx := ry_12_41 _ _) (K := ?_)
        refine ev_iload_n 2 dX12_places_89 (k := ?_)
        refine ev_iload_n 0 dX12_places_90 (k := ?_)
        obtain ⟨⟨hi0, hi1⟩, H7⟩ := g_e H6
        clear H6
        obtain ⟨h8, eh8, H8⟩ := lt_e H7
        clear H7
        refine ev_iastore (k := 141) j_ok1 hi0 hi1 eh8 dX12_places_91 (hc := ac_141) (hlen := ln_141 _ _) (K := ?_)
        refine ev_aload_n 1 dX12_places_92 (k := ?_)
        refine ev_getR (t := 142) (x := some (142, 0)) fl_X12_122 dX12_places_93 (hx := ry_12_42 _ _) (K := ?_)
        refine ev_iload_n 2 dX12_places_96 (k := ?_)
        refine ev_aload_n 1 dX12_places_97 (k := ?_)
        refine ev_getR (t := 109) (x := some (109, 0)) fl_X12_25 dX12_places_98 (hx := ry_12_9 _ _) (K := ?_)
        refine ev_iload_n 3 dX12_places_101 (k := ?_)
        obtain ⟨⟨hi0, hi1⟩, H9⟩ := g_e H8
        clear H8
        refine ev_iaload (k := 109) hi0 hi1 dX12_places_102 (hc := ac_109) (hlen := ln_109 _ _) (K := ?_)
        obtain ⟨⟨hi0, hi1⟩, H10⟩ := g_e H9
        clear H9
        obtain ⟨h9, eh9, H11⟩ := lt_e H10
        clear H10
        refine ev_iastore (k := 142) j_ok1 hi0 hi1 eh9 dX12_places_103 (hc := ac_142) (hlen := ln_142 _ _) (K := ?_)
        refine ev_aload_n 1 dX12_places_104 (k := ?_)
        refine ev_iload_n 2 dX12_places_105 (k := ?_)
        obtain ⟨h10, hq, H12⟩ := bd_e H11
        clear H11
        refine ev_callV (mc := 0) (ms := 0) (st := []) (C12_toFar hq) md_X12_toFar im_X12_toFar se_X12_toFar ml_X12_340 dX12_places_106 _ (by omega) (K := ?_)
        refine ev_goto 127 dX12_places_109 (k := ?_)
        cases H12
        exact ev_return dX12_places_127
      · replace H6 := if_ne hs2 H6
        by_cases hs3 : h2.1 109 0 l2 = 3
        · replace H6 := if_pe hs3 H6
          refine ev_tableIn (off := 68) 112 dX12_places_44 (by omega) (by omega) (by rw [hs3]; rfl) (k := ?_)
          refine ev_aload_n 1 dX12_places_112 (k := ?_)
          refine ev_iload_n 2 dX12_places_113 (k := ?_)
          refine ev_iload_n 0 dX12_places_114 (k := ?_)
          obtain ⟨h11, hq, H7⟩ := bd_e H6
          clear H6
          refine ev_callV (mc := 0) (ms := 0) (st := []) (C12_toGroup hq) md_X12_toGroup im_X12_toGroup se_X12_toGroup ml_X12_343 dX12_places_115 _ (by omega) (K := ?_)
          refine ev_goto 127 dX12_places_118 (k := ?_)
          cases H7
          exact ev_return dX12_places_127
        · replace H6 := if_ne hs3 H6
          refine ev_tableOut 121 dX12_places_44 (by omega) (k := ?_)
          refine ev_aload_n 1 dX12_places_121 (k := ?_)
          refine ev_iload_n 2 dX12_places_122 (k := ?_)
          refine ev_iload_n 0 dX12_places_123 (k := ?_)
          obtain ⟨h12, hq, H7⟩ := bd_e H6
          clear H6
          refine ev_callV (mc := 0) (ms := 0) (st := []) (C12_toRoom hq) md_X12_toRoom im_X12_toRoom se_X12_toRoom ml_X12_346 dX12_places_124 _ (by omega) (K := ?_)
          cases H7
          exact ev_return dX12_places_127
set_option maxRecDepth 100000 in
set_option maxHeartbeats 4000000 in
theorem C12_places (kp : Int → Int → JM → Option JM) (dk : Nat) (hB : 40 ≤ dk) (hkp : ∀ (c row : Int) (h res : JM), kp c row h = some res → Cn j_W1 dk 0 0 yX12_places cX12_places 4 none [.inr (.inr (some (12, 0))), .inl c, .inl row] h none res) {l1 : Int} {l2 : Int} {h : JM} {res : JM} (H : F12_places kp l1 l2 h = some res) : Cn j_W1 (dk + 6) 0 0 yX12_places cX12_places 4 none [.inr (.inr (some (12, 0))), .inl (l1), .inl (l2)] h none res := by
  refine Cn.by (own := RX12) (b := false) [(0, .inr (.inr (some (12, 0)))), (1, .inl (l1)), (2, .inl (l2))] rfl (fun z => by cases z) (by decide +kernel) (K := ?_)
  unfold F12_places at H
  refine ev_aload_n 0 dX12_places_0 (k := ?_)
  refine ev_getR (t := 143) (x := some (143, 0)) fl_X12_125 dX12_places_1 (hx := ry_12_43 _ _) (K := ?_)
  refine ev_iload_n 1 dX12_places_4 (k := ?_)
  refine ev_aload_n 0 dX12_places_5 (k := ?_)
  refine ev_getR (t := 143) (x := some (143, 0)) fl_X12_125 dX12_places_6 (hx := ry_12_43 _ _) (K := ?_)
  refine ev_iload_n 1 dX12_places_9 (k := ?_)
  obtain ⟨⟨hi0, hi1⟩, H1⟩ := g_e H
  clear H
  refine ev_iaload (k := 143) hi0 hi1 dX12_places_10 (hc := ac_143) (hlen := ln_143 _ _) (K := ?_)
  refine ev_iconst dX12_places_11 (k := ?_)
  refine ev_icmpne 24 dX12_places_12 (kt := fun hc => ?_) (kf := fun hc => ?_)
  · replace H1 := if_ne hc H1
    refine ev_aload_n 0 dX12_places_24 (k := ?_)
    refine ev_getR (t := 143) (x := some (143, 0)) fl_X12_125 dX12_places_25 (hx := ry_12_43 _ _) (K := ?_)
    refine ev_iload_n 1 dX12_places_28 (k := ?_)
    obtain ⟨⟨hi0, hi1⟩, H2⟩ := g_e H1
    clear H1
    refine ev_iaload (k := 143) hi0 hi1 dX12_places_29 (hc := ac_143) (hlen := ln_143 _ _) (K := ?_)
    exact E12_places_30 kp dk hB hkp l1 l2 (some 0) l1 (h.1 143 0 l1) h _ H2
  · replace H1 := if_pe hc H1
    refine ev_aload_n 0 dX12_places_15 (k := ?_)
    refine ev_getR (t := 111) (x := some (111, 0)) fl_X12_31 dX12_places_16 (hx := ry_12_11 _ _) (K := ?_)
    refine ev_iload_n 2 dX12_places_19 (k := ?_)
    obtain ⟨⟨hi0, hi1⟩, H2⟩ := g_e H1
    clear H1
    refine ev_iaload (k := 111) hi0 hi1 dX12_places_20 (hc := ac_111) (hlen := ln_111 _ _) (K := ?_)
    refine ev_goto 30 dX12_places_21 (k := ?_)
    exact E12_places_30 kp dk hB hkp l1 l2 (some 0) l1 (h.1 111 0 l2) h _ H2
-- PN
theorem C12_placesN (n : Nat) : ∀ (c r : Int) (h res : JM), F12_placesN n c r h = some res → Cn j_W1 (40 + 6 * n) 0 0 yX12_places cX12_places 4 none [.inr (.inr (some (12, 0))), .inl c, .inl r] h none res := by
  induction n with
  | zero => intro c r h res H; cases H
  | succ n ih =>
    intro c r h res H
    exact C12_places (F12_placesN n) (40 + 6 * n) (by omega) ih H
