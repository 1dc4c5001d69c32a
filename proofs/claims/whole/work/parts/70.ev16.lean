-- X12_incoming
abbrev T12_incoming : JT := (RX12, cX12_incoming, 5, none, false)
set_option maxRecDepth 100000 in
set_option maxHeartbeats 4000000 in
theorem E12_incoming_68b (k68 : Int → Int → JM → Option JM) (hk68 : ∀ (l3 : Int) (l4 : Int) (h : JM) (res : JM), k68 l3 l4 h = some res → Ev j_W1 89 0 0 T12_incoming 68 [(0, .inr (.inr (some (12, 0)))), (3, .inl (l3)), (4, .inl (l4))] [] h none res) (l3 : Int) (l4 : Int) (h : JM) (res : JM) (H : F12_incoming_68b k68 l3 l4 h = some res) : Ev j_W1 89 0 0 T12_incoming 68 [(0, .inr (.inr (some (12, 0)))), (3, .inl (l3)), (4, .inl (l4))] [] h none res := by
  unfold F12_incoming_68b at H
  refine ev_iload 2 dX12_incoming_68 (k := ?_)
  refine ev_aload_n 0 dX12_incoming_70 (k := ?_)
  refine ev_getR (t := 168) (x := some (168, 0)) fl_X12_197 dX12_incoming_71 (hx := ry_12_68 _ _) (K := ?_)
  refine ev_iconst dX12_incoming_74 (k := ?_)
  obtain ⟨⟨hi0, hi1⟩, H1⟩ := g_e H
  clear H
  refine ev_iaload (k := 168) hi0 hi1 dX12_incoming_75 (hc := ac_168) (hlen := ln_168 _ _) (K := ?_)
  refine ev_icmpge 106 dX12_incoming_76 (kt := fun hc => ?_) (kf := fun hc => ?_)
  · replace H1 := if_pe hc H1
    refine ev_aload_n 0 dX12_incoming_106 (k := ?_)
    refine ev_iload_n 1 dX12_incoming_107 (k := ?_)
    obtain ⟨q1, hq, H2⟩ := bd_e H1
    clear H1
    refine ev_callV (mc := 0) (ms := 0) (st := []) (C12_analysis hq) md_X12_analysis im_X12_analysis se_X12_analysis ml_X12_327 dX12_incoming_108 _ (by decide) (K := ?_)
    refine ev_istore [(4, .inl (q1.1)), (0, .inr (.inr (some (12, 0)))), (3, .inl (l3))] dX12_incoming_111 (k := ?_)
    refine ev_iload 0 dX12_incoming_113 (k := ?_)
    refine ev_ifge 128 dX12_incoming_115 (kt := fun hc => ?_) (kf := fun hc => ?_)
    · replace H2 := if_pe hc H2
      refine ev_aload_n 1 dX12_incoming_128 (k := ?_)
      refine ev_iload_n 2 dX12_incoming_129 (k := ?_)
      refine ev_iload 0 dX12_incoming_130 (k := ?_)
      obtain ⟨h2, hq, H3⟩ := bd_e H2
      clear H2
      refine ev_callV (mc := 0) (ms := 0) (st := []) (C12_placesN 8 _ _ _ _ hq) md_X12_places im_X12_places se_X12_places ml_X12_331 dX12_incoming_132 _ (by decide) (K := ?_)
      cases H3
      exact ev_return dX12_incoming_135
    · replace H2 := if_ne hc H2
      refine ev_aload_n 1 dX12_incoming_118 (k := ?_)
      refine ev_iload_n 2 dX12_incoming_119 (k := ?_)
      refine ev_iconst dX12_incoming_120 (k := ?_)
      refine ev_iconst dX12_incoming_121 (k := ?_)
      obtain ⟨h3, hq, H3⟩ := bd_e H2
      clear H2
      refine ev_callV (mc := 0) (ms := 0) (st := []) (C12_over hq) md_X12_over im_X12_over se_X12_over ml_X12_323 dX12_incoming_122 _ (by decide) (K := ?_)
      refine ev_goto 135 dX12_incoming_125 (k := ?_)
      cases H3
      exact ev_return dX12_incoming_135
  · replace H1 := if_ne hc H1
    refine ev_aload_n 0 dX12_incoming_79 (k := ?_)
    refine ev_getR (t := 139) (x := some (139, 0)) fl_X12_113 dX12_incoming_80 (hx := ry_12_39 _ _) (K := ?_)
    refine ev_bipush dX12_incoming_83 (k := ?_)
    refine ev_iload_n 1 dX12_incoming_85 (k := ?_)
    refine ev_imul dX12_incoming_86 (k := ?_)
    refine ev_iload 2 dX12_incoming_87 (k := ?_)
    refine ev_iadd dX12_incoming_89 (k := ?_)
    refine ev_aload_n 0 dX12_incoming_90 (k := ?_)
    refine ev_getR (t := 168) (x := some (168, 0)) fl_X12_197 dX12_incoming_91 (hx := ry_12_68 _ _) (K := ?_)
    refine ev_iconst dX12_incoming_94 (k := ?_)
    refine ev_iload 2 dX12_incoming_95 (k := ?_)
    refine ev_iadd dX12_incoming_97 (k := ?_)
    obtain ⟨⟨hi0, hi1⟩, H2⟩ := g_e H1
    clear H1
    refine ev_iaload (k := 168) hi0 hi1 dX12_incoming_98 (hc := ac_168) (hlen := ln_168 _ _) (K := ?_)
    obtain ⟨⟨hi0, hi1⟩, H3⟩ := g_e H2
    clear H2
    obtain ⟨h4, eh4, H4⟩ := lt_e H3
    clear H3
    refine ev_iastore (k := 139) j_ok1 hi0 hi1 eh4 dX12_incoming_99 (hc := ac_139) (hlen := ln_139 _ _) (K := ?_)
    refine ev_iinc 2 [(4, .inl (w32 (l4 + 1))), (0, .inr (.inr (some (12, 0)))), (3, .inl (l3))] dX12_incoming_100 (k := ?_)
    refine ev_goto 68 dX12_incoming_103 (k := ?_)
    refine ev_lv [1, 2, 0] [(0, .inr (.inr (some (12, 0)))), (3, .inl (l3)), (4, .inl (w32 (l4 + 1)))] (k := ?_)
    exact hk68 l3 (w32 (l4 + 1)) h4 _ H4
theorem E12_incoming_68 (n : Nat) : ∀ (l3 : Int) (l4 : Int) (h : JM) (res : JM), F12_incoming_68 n l3 l4 h = some res → Ev j_W1 89 0 0 T12_incoming 68 [(0, .inr (.inr (some (12, 0)))), (3, .inl (l3)), (4, .inl (l4))] [] h none res := by
  induction n with
  | zero =>
    intro l3 l4 h res H
    cases H
  | succ n ih =>
    intro l3 l4 h res H
    exact E12_incoming_68b (F12_incoming_68 n) ih l3 l4 h res H
set_option maxRecDepth 100000 in
set_option maxHeartbeats 4000000 in
theorem C12_incoming {l1 : Int} {h : JM} {res : JM} (H : F12_incoming l1 h = some res) : Cn j_W1 89 0 0 yX12_incoming cX12_incoming 5 none [.inr (.inr (some (12, 0))), .inl (l1)] h none res := by
  refine Cn.by (own := RX12) (b := false) [(0, .inr (.inr (some (12, 0)))), (1, .inl (l1))] rfl (fun z => by cases z) (by decide +kernel) (K := ?_)
  unfold F12_incoming at H
  refine ev_bipush dX12_incoming_0 (k := ?_)
  refine ev_iload_n 1 dX12_incoming_2 (k := ?_)
  refine ev_imul dX12_incoming_3 (k := ?_)
  refine ev_aload_n 0 dX12_incoming_4 (k := ?_)
  refine ev_getR (t := 168) (x := some (168, 0)) fl_X12_197 dX12_incoming_5 (hx := ry_12_68 _ _) (K := ?_)
  refine ev_iconst dX12_incoming_8 (k := ?_)
  obtain ⟨⟨hi0, hi1⟩, H1⟩ := g_e H
  clear H
  refine ev_iaload (k := 168) hi0 hi1 dX12_incoming_9 (hc := ac_168) (hlen := ln_168 _ _) (K := ?_)
  refine ev_iadd dX12_incoming_10 (k := ?_)
  obtain ⟨x5, ex5, H2⟩ := lt_e H1
  clear H1
  refine ev_topI ex5 ?_
  refine ev_istore_n [(2, .inl (x5)), (0, .inr (.inr (some (12, 0)))), (1, .inl (l1))] dX12_incoming_11 (k := ?_)
  refine ev_aload_n 1 dX12_incoming_12 (k := ?_)
  refine ev_getR (t := 154) (x := some (154, 0)) fl_X12_158 dX12_incoming_13 (hx := ry_12_54 _ _) (K := ?_)
  refine ev_iload_n 0 dX12_incoming_16 (k := ?_)
  refine ev_iconst dX12_incoming_17 (k := ?_)
  obtain ⟨⟨hi0, hi1⟩, H3⟩ := g_e H2
  clear H2
  obtain ⟨h6, eh6, H4⟩ := lt_e H3
  clear H3
  refine ev_iastore (k := 154) j_ok1 hi0 hi1 eh6 dX12_incoming_18 (hc := ac_154) (hlen := ln_154 _ _) (K := ?_)
  refine ev_aload_n 1 dX12_incoming_19 (k := ?_)
  refine ev_iload_n 2 dX12_incoming_20 (k := ?_)
  refine ev_bipush dX12_incoming_21 (k := ?_)
  refine ev_aload_n 1 dX12_incoming_23 (k := ?_)
  refine ev_getR (t := 168) (x := some (168, 0)) fl_X12_197 dX12_incoming_24 (hx := ry_12_68 _ _) (K := ?_)
  refine ev_iconst dX12_incoming_27 (k := ?_)
  obtain ⟨⟨hi0, hi1⟩, H5⟩ := g_e H4
  clear H4
  refine ev_iaload (k := 168) hi0 hi1 dX12_incoming_28 (hc := ac_168) (hlen := ln_168 _ _) (K := ?_)
  refine ev_iadd dX12_incoming_29 (k := ?_)
  obtain ⟨q7, hq, H6⟩ := bd_e H5
  clear H5
  refine ev_callV (mc := 0) (ms := 0) (st := []) (C12_makes hq) md_X12_makes im_X12_makes se_X12_makes ml_X12_317 dX12_incoming_30 _ (by decide) (K := ?_)
  refine ev_istore_n [(3, .inl (q7.1)), (2, .inl (x5)), (0, .inr (.inr (some (12, 0)))), (1, .inl (l1))] dX12_incoming_33 (k := ?_)
  refine ev_aload_n 2 dX12_incoming_34 (k := ?_)
  refine ev_getR (t := 155) (x := some (155, 0)) fl_X12_161 dX12_incoming_35 (hx := ry_12_55 _ _) (K := ?_)
  refine ev_iload_n 1 dX12_incoming_38 (k := ?_)
  refine ev_iload_n 0 dX12_incoming_39 (k := ?_)
  obtain ⟨⟨hi0, hi1⟩, H7⟩ := g_e H6
  clear H6
  obtain ⟨h8, eh8, H8⟩ := lt_e H7
  clear H7
  refine ev_iastore (k := 155) j_ok1 hi0 hi1 eh8 dX12_incoming_40 (hc := ac_155) (hlen := ln_155 _ _) (K := ?_)
  refine ev_aload_n 2 dX12_incoming_41 (k := ?_)
  refine ev_getR (t := 144) (x := some (144, 0)) fl_X12_128 dX12_incoming_42 (hx := ry_12_44 _ _) (K := ?_)
  refine ev_iload_n 0 dX12_incoming_45 (k := ?_)
  refine ev_aload_n 2 dX12_incoming_46 (k := ?_)
  refine ev_getR (t := 168) (x := some (168, 0)) fl_X12_197 dX12_incoming_47 (hx := ry_12_68 _ _) (K := ?_)
  refine ev_iconst dX12_incoming_50 (k := ?_)
  obtain ⟨⟨hi0, hi1⟩, H9⟩ := g_e H8
  clear H8
  refine ev_iaload (k := 168) hi0 hi1 dX12_incoming_51 (hc := ac_168) (hlen := ln_168 _ _) (K := ?_)
  obtain ⟨⟨hi0, hi1⟩, H10⟩ := g_e H9
  clear H9
  obtain ⟨h9, eh9, H11⟩ := lt_e H10
  clear H10
  refine ev_iastore (k := 144) j_ok1 hi0 hi1 eh9 dX12_incoming_52 (hc := ac_144) (hlen := ln_144 _ _) (K := ?_)
  refine ev_aload_n 2 dX12_incoming_53 (k := ?_)
  refine ev_getR (t := 140) (x := some (140, 0)) fl_X12_116 dX12_incoming_54 (hx := ry_12_40 _ _) (K := ?_)
  refine ev_iload_n 0 dX12_incoming_57 (k := ?_)
  refine ev_aload_n 2 dX12_incoming_58 (k := ?_)
  refine ev_getR (t := 168) (x := some (168, 0)) fl_X12_197 dX12_incoming_59 (hx := ry_12_68 _ _) (K := ?_)
  refine ev_iconst dX12_incoming_62 (k := ?_)
  obtain ⟨⟨hi0, hi1⟩, H12⟩ := g_e H11
  clear H11
  refine ev_iaload (k := 168) hi0 hi1 dX12_incoming_63 (hc := ac_168) (hlen := ln_168 _ _) (K := ?_)
  obtain ⟨⟨hi0, hi1⟩, H13⟩ := g_e H12
  clear H12
  obtain ⟨h10, eh10, H14⟩ := lt_e H13
  clear H13
  refine ev_iastore (k := 140) j_ok1 hi0 hi1 eh10 dX12_incoming_64 (hc := ac_140) (hlen := ln_140 _ _) (K := ?_)
  refine ev_iconst dX12_incoming_65 (k := ?_)
  refine ev_istore [(4, .inl (0)), (3, .inl (q7.1)), (2, .inl (x5)), (0, .inr (.inr (some (12, 0)))), (1, .inl (l1))] dX12_incoming_66 (k := ?_)
  refine ev_lv [3, 1, 0] [(0, .inr (.inr (some (12, 0)))), (3, .inl (q7.1)), (4, .inl (0))] (k := ?_)
  exact E12_incoming_68 j_fu q7.1 0 h10 _ H14
-- X12_isSo
abbrev T12_isSo : JT := (RX12, cX12_isSo, 3, some .boolean, false)
set_option maxRecDepth 100000 in
set_option maxHeartbeats 4000000 in
theorem E12_isSo_121b (k121 : Int → Int → JM → Option (Int × JM)) (hk121 : ∀ (l1 : Int) (l2 : Int) (h : JM) (res : (Int × JM)), k121 l1 l2 h = some res → Ev j_W1 2 0 0 T12_isSo 121 [(0, .inr (.inr (some (12, 0)))), (1, .inl (l1)), (2, .inl (l2))] [] h (some (.inl res.1)) res.2) (l1 : Int) (l2 : Int) (h : JM) (res : (Int × JM)) (H : F12_isSo_121b k121 l1 l2 h = some res) : Ev j_W1 2 0 0 T12_isSo 121 [(0, .inr (.inr (some (12, 0)))), (1, .inl (l1)), (2, .inl (l2))] [] h (some (.inl res.1)) res.2 := by
  unfold F12_isSo_121b at H
  refine ev_iload_n 2 dX12_isSo_121 (k := ?_)
  refine ev_iload_n 1 dX12_isSo_122 (k := ?_)
  refine ev_icmpge 145 dX12_isSo_123 (kt := fun hc => ?_) (kf := fun hc => ?_)
  · replace H := if_pe hc H
    refine ev_iconst dX12_isSo_145 (k := ?_)
    cases H
    exact ev_zreturn (Or.inr rfl) dX12_isSo_146
  · replace H := if_ne hc H
    refine ev_aload_n 0 dX12_isSo_126 (k := ?_)
    refine ev_getR (t := 168) (x := some (168, 0)) fl_X12_197 dX12_isSo_127 (hx := ry_12_68 _ _) (K := ?_)
    refine ev_iload_n 2 dX12_isSo_130 (k := ?_)
    obtain ⟨⟨hi0, hi1⟩, H1⟩ := g_e H
    clear H
    refine ev_iaload (k := 168) hi0 hi1 dX12_isSo_131 (hc := ac_168) (hlen := ln_168 _ _) (K := ?_)
    refine ev_bipush dX12_isSo_132 (k := ?_)
    refine ev_icmple 139 dX12_isSo_134 (kt := fun hc => ?_) (kf := fun hc => ?_)
    · replace H1 := if_pe hc H1
      refine ev_iinc 2 [(2, .inl (w32 (l2 + 1))), (0, .inr (.inr (some (12, 0)))), (1, .inl (l1))] dX12_isSo_139 (k := ?_)
      refine ev_goto 121 dX12_isSo_142 (k := ?_)
      refine ev_lv [1, 2, 0] [(0, .inr (.inr (some (12, 0)))), (1, .inl (l1)), (2, .inl (w32 (l2 + 1)))] (k := ?_)
      exact hk121 l1 (w32 (l2 + 1)) h _ H1
    · replace H1 := if_ne hc H1
      refine ev_iconst dX12_isSo_137 (k := ?_)
      cases H1
      exact ev_zreturn (Or.inl rfl) dX12_isSo_138
theorem E12_isSo_121 (n : Nat) : ∀ (l1 : Int) (l2 : Int) (h : JM) (res : (Int × JM)), F12_isSo_121 n l1 l2 h = some res → Ev j_W1 2 0 0 T12_isSo 121 [(0, .inr (.inr (some (12, 0)))), (1, .inl (l1)), (2, .inl (l2))] [] h (some (.inl res.1)) res.2 := by
  induction n with
  | zero =>
    intro l1 l2 h res H
    cases H
  | succ n ih =>
    intro l1 l2 h res H
    exact E12_isSo_121b (F12_isSo_121 n) ih l1 l2 h res H
set_option maxRecDepth 100000 in
set_option maxHeartbeats 4000000 in
theorem E12_isSo_117 (h : JM) (res : (Int × JM)) (H : F12_isSo_117 h = some res) : Ev j_W1 2 0 0 T12_isSo 117 [] [] h (some (.inl res.1)) res.2 := by
  unfold F12_isSo_117 at H
  refine ev_iconst dX12_isSo_117 (k := ?_)
  cases H
  exact ev_zreturn (Or.inl rfl) dX12_isSo_118
set_option maxRecDepth 100000 in
set_option maxHeartbeats 4000000 in
theorem E12_isSo_35 (h : JM) (res : (Int × JM)) (H : F12_isSo_35 h = some res) : Ev j_W1 2 0 0 T12_isSo 35 [] [] h (some (.inl res.1)) res.2 := by
  unfold F12_isSo_35 at H
  refine ev_iconst dX12_isSo_35 (k := ?_)
  cases H
  exact ev_zreturn (Or.inl rfl) dX12_isSo_36
set_option maxRecDepth 100000 in
set_option maxHeartbeats 4000000 in
theorem C12_isSo {l1 : Int} {h : JM} {res : (Int × JM)} (H : F12_isSo l1 h = some res) : Cn j_W1 2 0 0 yX12_isSo cX12_isSo 3 (some .boolean) [.inr (.inr (some (12, 0))), .inl (l1)] h (some (.inl res.1)) res.2 := by
  refine Cn.by (own := RX12) (b := false) [(0, .inr (.inr (some (12, 0)))), (1, .inl (l1))] rfl (fun z => by cases z) (by decide +kernel) (K := ?_)
  unfold F12_isSo at H
  refine ev_iload_n 1 dX12_isSo_0 (k := ?_)
  refine ev_iconst dX12_isSo_1 (k := ?_)
  refine ev_icmplt 35 dX12_isSo_2 (kt := fun hc => ?_) (kf := fun hc => ?_)
  · replace H := if_pe hc H
    refine ev_lv [] [] (k := ?_)
    exact E12_isSo_35 h _ H
  · replace H := if_ne hc H
    refine ev_aload_n 0 dX12_isSo_5 (k := ?_)
    refine ev_getR (t := 168) (x := some (168, 0)) fl_X12_197 dX12_isSo_6 (hx := ry_12_68 _ _) (K := ?_)
    refine ev_iconst dX12_isSo_9 (k := ?_)
    obtain ⟨⟨hi0, hi1⟩, H1⟩ := g_e H
    clear H
    refine ev_iaload (k := 168) hi0 hi1 dX12_isSo_10 (hc := ac_168) (hlen := ln_168 _ _) (K := ?_)
    refine ev_aload_n 0 dX12_isSo_11 (k := ?_)
    refine ev_getI (x := h.1 12 0 0) fl_X12_255 dX12_isSo_12 (K := ?_)
    refine ev_icmpge 35 dX12_isSo_15 (kt := fun hc => ?_) (kf := fun hc => ?_)
    · replace H1 := if_pe hc H1
      refine ev_lv [] [] (k := ?_)
      exact E12_isSo_35 h _ H1
    · replace H1 := if_ne hc H1
      refine ev_aload_n 0 dX12_isSo_18 (k := ?_)
      refine ev_getR (t := 168) (x := some (168, 0)) fl_X12_197 dX12_isSo_19 (hx := ry_12_68 _ _) (K := ?_)
      refine ev_iconst dX12_isSo_22 (k := ?_)
      obtain ⟨⟨hi0, hi1⟩, H2⟩ := g_e H1
      clear H1
      refine ev_iaload (k := 168) hi0 hi1 dX12_isSo_23 (hc := ac_168) (hlen := ln_168 _ _) (K := ?_)
      refine ev_i2l dX12_isSo_24 (k := ?_)
      refine ev_lconst (v := 1) dX12_isSo_25 (k := ?_)
      refine ev_ldc2 (n := 5) cl_X12_410 dX12_isSo_26 (k := ?_)
      obtain ⟨q1, hq, H3⟩ := bd_e H2
      clear H2
      refine ev_callS (mc := 0) (ms := 0) (st := []) (C12_in hq) md_X12_in ss_X12_in ml_X12_268 dX12_isSo_29 _ (by decide) (K := ?_)
      refine ev_ifne 37 dX12_isSo_32 (kt := fun hc => ?_) (kf := fun hc => ?_)
      · replace H3 := if_ne hc H3
        refine ev_aload_n 0 dX12_isSo_37 (k := ?_)
        refine ev_getR (t := 168) (x := some (168, 0)) fl_X12_197 dX12_isSo_38 (hx := ry_12_68 _ _) (K := ?_)
        refine ev_iconst dX12_isSo_41 (k := ?_)
        obtain ⟨⟨hi0, hi1⟩, H4⟩ := g_e H3
        clear H3
        refine ev_iaload (k := 168) hi0 hi1 dX12_isSo_42 (hc := ac_168) (hlen := ln_168 _ _) (K := ?_)
        refine ev_iconst dX12_isSo_43 (k := ?_)
        refine ev_icmpne 58 dX12_isSo_44 (kt := fun hc => ?_) (kf := fun hc => ?_)
        · replace H4 := if_ne hc H4
          refine ev_aload_n 0 dX12_isSo_58 (k := ?_)
          refine ev_getR (t := 168) (x := some (168, 0)) fl_X12_197 dX12_isSo_59 (hx := ry_12_68 _ _) (K := ?_)
          refine ev_iconst dX12_isSo_62 (k := ?_)
          obtain ⟨⟨hi0, hi1⟩, H5⟩ := g_e H4
          clear H4
          refine ev_iaload (k := 168) hi0 hi1 dX12_isSo_63 (hc := ac_168) (hlen := ln_168 _ _) (K := ?_)
          refine ev_iconst dX12_isSo_64 (k := ?_)
          refine ev_icmpeq 79 dX12_isSo_65 (kt := fun hc => ?_) (kf := fun hc => ?_)
          · replace H5 := if_pe hc H5
            refine ev_iload_n 1 dX12_isSo_79 (k := ?_)
            refine ev_iconst dX12_isSo_80 (k := ?_)
            refine ev_icmplt 117 dX12_isSo_81 (kt := fun hc => ?_) (kf := fun hc => ?_)
            · replace H5 := if_pe hc H5
              refine ev_lv [] [] (k := ?_)
              exact E12_isSo_117 q1.2 _ H5
            · replace H5 := if_ne hc H5
              refine ev_aload_n 0 dX12_isSo_84 (k := ?_)
              refine ev_getR (t := 168) (x := some (168, 0)) fl_X12_197 dX12_isSo_85 (hx := ry_12_68 _ _) (K := ?_)
              refine ev_iconst dX12_isSo_88 (k := ?_)
              obtain ⟨⟨hi0, hi1⟩, H6⟩ := g_e H5
              clear H5
              refine ev_iaload (k := 168) hi0 hi1 dX12_isSo_89 (hc := ac_168) (hlen := ln_168 _ _) (K := ?_)
              refine ev_iconst dX12_isSo_90 (k := ?_)
              refine ev_icmpgt 117 dX12_isSo_91 (kt := fun hc => ?_) (kf := fun hc => ?_)
              · replace H6 := if_pe hc H6
                refine ev_lv [] [] (k := ?_)
                exact E12_isSo_117 q1.2 _ H6
              · replace H6 := if_ne hc H6
                refine ev_aload_n 0 dX12_isSo_94 (k := ?_)
                refine ev_getR (t := 168) (x := some (168, 0)) fl_X12_197 dX12_isSo_95 (hx := ry_12_68 _ _) (K := ?_)
                refine ev_iconst dX12_isSo_98 (k := ?_)
                obtain ⟨⟨hi0, hi1⟩, H7⟩ := g_e H6
                clear H6
                refine ev_iaload (k := 168) hi0 hi1 dX12_isSo_99 (hc := ac_168) (hlen := ln_168 _ _) (K := ?_)
                refine ev_bipush dX12_isSo_100 (k := ?_)
                refine ev_icmpgt 117 dX12_isSo_102 (kt := fun hc => ?_) (kf := fun hc => ?_)
                · replace H7 := if_pe hc H7
                  refine ev_lv [] [] (k := ?_)
                  exact E12_isSo_117 q1.2 _ H7
                · replace H7 := if_ne hc H7
                  refine ev_iload_n 1 dX12_isSo_105 (k := ?_)
                  refine ev_iconst dX12_isSo_106 (k := ?_)
                  refine ev_aload_n 0 dX12_isSo_107 (k := ?_)
                  refine ev_getR (t := 168) (x := some (168, 0)) fl_X12_197 dX12_isSo_108 (hx := ry_12_68 _ _) (K := ?_)
                  refine ev_iconst dX12_isSo_111 (k := ?_)
                  obtain ⟨⟨hi0, hi1⟩, H8⟩ := g_e H7
                  clear H7
                  refine ev_iaload (k := 168) hi0 hi1 dX12_isSo_112 (hc := ac_168) (hlen := ln_168 _ _) (K := ?_)
                  refine ev_iadd dX12_isSo_113 (k := ?_)
                  refine ev_icmpeq 119 dX12_isSo_114 (kt := fun hc => ?_) (kf := fun hc => ?_)
                  · replace H8 := if_pe hc H8
                    refine ev_iconst dX12_isSo_119 (k := ?_)
                    refine ev_istore_n [(2, .inl (4)), (0, .inr (.inr (some (12, 0)))), (1, .inl (l1))] dX12_isSo_120 (k := ?_)
                    refine ev_lv [1, 2, 0] [(0, .inr (.inr (some (12, 0)))), (1, .inl (l1)), (2, .inl (4))] (k := ?_)
                    exact E12_isSo_121 j_fu l1 4 q1.2 _ H8
                  · replace H8 := if_ne hc H8
                    refine ev_lv [] [] (k := ?_)
                    exact E12_isSo_117 q1.2 _ H8
          · replace H5 := if_ne hc H5
            refine ev_iload_n 1 dX12_isSo_68 (k := ?_)
            refine ev_iconst dX12_isSo_69 (k := ?_)
            refine ev_icmpne 77 dX12_isSo_70 (kt := fun hc => ?_) (kf := fun hc => ?_)
            · replace H5 := if_ne hc H5
              refine ev_iconst dX12_isSo_77 (k := ?_)
              cases H5
              exact ev_zreturn (Or.inl rfl) dX12_isSo_78
            · replace H5 := if_pe hc H5
              refine ev_iconst dX12_isSo_73 (k := ?_)
              refine ev_goto 78 dX12_isSo_74 (k := ?_)
              cases H5
              exact ev_zreturn (Or.inr rfl) dX12_isSo_78
        · replace H4 := if_pe hc H4
          refine ev_iload_n 1 dX12_isSo_47 (k := ?_)
          refine ev_iconst dX12_isSo_48 (k := ?_)
          refine ev_icmpne 56 dX12_isSo_49 (kt := fun hc => ?_) (kf := fun hc => ?_)
          · replace H4 := if_ne hc H4
            refine ev_iconst dX12_isSo_56 (k := ?_)
            cases H4
            exact ev_zreturn (Or.inl rfl) dX12_isSo_57
          · replace H4 := if_pe hc H4
            refine ev_iconst dX12_isSo_52 (k := ?_)
            refine ev_goto 57 dX12_isSo_53 (k := ?_)
            cases H4
            exact ev_zreturn (Or.inr rfl) dX12_isSo_57
      · replace H3 := if_pe hc H3
        refine ev_lv [] [] (k := ?_)
        exact E12_isSo_35 q1.2 _ H3
-- X12_comes
abbrev T12_comes : JT := (RX12, cX12_comes, 8, none, false)
set_option maxRecDepth 100000 in
set_option maxHeartbeats 4000000 in
theorem E12_comes_224 (l4 : Int) (h : JM) (res : JM) (H : F12_comes_224 l4 h = some res) : Ev j_W1 90 0 0 T12_comes 224 [(0, .inr (.inr (some (12, 0)))), (4, .inl (l4))] [] h none res := by
  unfold F12_comes_224 at H
  refine ev_aload_n 0 dX12_comes_224 (k := ?_)
  refine ev_iload 1 dX12_comes_225 (k := ?_)
  obtain ⟨h1, hq, H1⟩ := bd_e H
  clear H
  refine ev_callV (mc := 0) (ms := 0) (st := []) (C12_answered hq) md_X12_answered im_X12_answered se_X12_answered ml_X12_320 dX12_comes_227 _ (by decide) (K := ?_)
  refine ev_goto 330 dX12_comes_230 (k := ?_)
  cases H1
  exact ev_return dX12_comes_330
set_option maxRecDepth 100000 in
set_option maxHeartbeats 4000000 in
theorem E12_comes_148 (l1 : Int) (l3 : Int) (h : JM) (res : JM) (H : F12_comes_148 l1 l3 h = some res) : Ev j_W1 90 0 0 T12_comes 148 [(0, .inr (.inr (some (12, 0)))), (1, .inl (l1)), (3, .inl (l3))] [] h none res := by
  unfold F12_comes_148 at H
  refine ev_aload_n 0 dX12_comes_148 (k := ?_)
  refine ev_getR (t := 154) (x := some (154, 0)) fl_X12_158 dX12_comes_149 (hx := ry_12_54 _ _) (K := ?_)
  refine ev_iload_n 2 dX12_comes_152 (k := ?_)
  obtain ⟨⟨hi0, hi1⟩, H1⟩ := g_e H
  clear H
  refine ev_iaload (k := 154) hi0 hi1 dX12_comes_153 (hc := ac_154) (hlen := ln_154 _ _) (K := ?_)
  refine ev_ifne 330 dX12_comes_154 (kt := fun hc => ?_) (kf := fun hc => ?_)
  · replace H1 := if_ne hc H1
    cases H1
    exact ev_return dX12_comes_330
  · replace H1 := if_pe hc H1
    refine ev_aload_n 0 dX12_comes_157 (k := ?_)
    refine ev_iload_n 1 dX12_comes_158 (k := ?_)
    obtain ⟨h2, hq, H2⟩ := bd_e H1
    clear H1
    refine ev_callV (mc := 0) (ms := 0) (st := []) (C12_incoming hq) md_X12_incoming im_X12_incoming se_X12_incoming ml_X12_415 dX12_comes_159 _ (by decide) (K := ?_)
    refine ev_goto 330 dX12_comes_162 (k := ?_)
    cases H2
    exact ev_return dX12_comes_330
set_option maxRecDepth 100000 in
set_option maxHeartbeats 4000000 in
theorem E12_comes_44 (l1 : Int) (l3 : Int) (l4 : Int) (s0 : Int) (h : JM) (res : JM) (H : F12_comes_44 l1 l3 l4 s0 h = some res) : Ev j_W1 90 0 0 T12_comes 44 [(0, .inr (.inr (some (12, 0)))), (1, .inl (l1)), (3, .inl (l3)), (4, .inl (l4))] [.inl (s0)] h none res := by
  unfold F12_comes_44 at H
  refine ev_istore [(5, .inl (s0)), (0, .inr (.inr (some (12, 0)))), (1, .inl (l1)), (3, .inl (l3)), (4, .inl (l4))] dX12_comes_44 (k := ?_)
  refine ev_aload_n 1 dX12_comes_46 (k := ?_)
  refine ev_getR (t := 168) (x := some (168, 0)) fl_X12_197 dX12_comes_47 (hx := ry_12_68 _ _) (K := ?_)
  refine ev_iconst dX12_comes_50 (k := ?_)
  obtain ⟨⟨hi0, hi1⟩, H1⟩ := g_e H
  clear H
  refine ev_iaload (k := 168) hi0 hi1 dX12_comes_51 (hc := ac_168) (hlen := ln_168 _ _) (K := ?_)
  by_cases hs0 : h.1 168 0 1 = 1
  · replace H1 := if_pe hs0 H1
    refine ev_tableIn (off := 32) 84 dX12_comes_52 (by omega) (by omega) (by rw [hs0]; rfl) (k := ?_)
    refine ev_iload 0 dX12_comes_84 (k := ?_)
    refine ev_ifeq 148 dX12_comes_86 (kt := fun hc => ?_) (kf := fun hc => ?_)
    · replace H1 := if_pe hc H1
      refine ev_lv [1, 2, 3] [(0, .inr (.inr (some (12, 0)))), (1, .inl (l1)), (3, .inl (l3))] (k := ?_)
      exact E12_comes_148 l1 l3 h _ H1
    · replace H1 := if_ne hc H1
      refine ev_aload_n 1 dX12_comes_89 (k := ?_)
      refine ev_getR (t := 133) (x := some (133, 0)) fl_X12_95 dX12_comes_90 (hx := ry_12_33 _ _) (K := ?_)
      refine ev_iload 4 dX12_comes_93 (k := ?_)
      obtain ⟨⟨hi0, hi1⟩, H2⟩ := g_e H1
      clear H1
      refine ev_iaload (k := 133) hi0 hi1 dX12_comes_95 (hc := ac_133) (hlen := ln_133 _ _) (K := ?_)
      refine ev_iconst dX12_comes_96 (k := ?_)
      refine ev_icmpne 148 dX12_comes_97 (kt := fun hc => ?_) (kf := fun hc => ?_)
      · replace H2 := if_ne hc H2
        refine ev_lv [1, 2, 3] [(0, .inr (.inr (some (12, 0)))), (1, .inl (l1)), (3, .inl (l3))] (k := ?_)
        exact E12_comes_148 l1 l3 h _ H2
      · replace H2 := if_pe hc H2
        refine ev_aload_n 1 dX12_comes_100 (k := ?_)
        refine ev_getR (t := 168) (x := some (168, 0)) fl_X12_197 dX12_comes_101 (hx := ry_12_68 _ _) (K := ?_)
        refine ev_iconst dX12_comes_104 (k := ?_)
        obtain ⟨⟨hi0, hi1⟩, H3⟩ := g_e H2
        clear H2
        refine ev_iaload (k := 168) hi0 hi1 dX12_comes_105 (hc := ac_168) (hlen := ln_168 _ _) (K := ?_)
        refine ev_iconst dX12_comes_106 (k := ?_)
        refine ev_irem dX12_comes_107 (by decide) (k := ?_)
        refine ev_iload_n 2 dX12_comes_108 (k := ?_)
        refine ev_icmpeq 148 dX12_comes_109 (kt := fun hc => ?_) (kf := fun hc => ?_)
        · replace H3 := if_pe hc H3
          refine ev_lv [1, 2, 3] [(0, .inr (.inr (some (12, 0)))), (1, .inl (l1)), (3, .inl (l3))] (k := ?_)
          exact E12_comes_148 l1 l3 h _ H3
        · replace H3 := if_ne hc H3
          refine ev_aload_n 1 dX12_comes_112 (k := ?_)
          refine ev_getR (t := 154) (x := some (154, 0)) fl_X12_158 dX12_comes_113 (hx := ry_12_54 _ _) (K := ?_)
          refine ev_iload_n 3 dX12_comes_116 (k := ?_)
          refine ev_iconst dX12_comes_117 (k := ?_)
          obtain ⟨⟨hi0, hi1⟩, H4⟩ := g_e H3
          clear H3
          obtain ⟨h3, eh3, H5⟩ := lt_e H4
          clear H4
          refine ev_iastore (k := 154) j_ok1 hi0 hi1 eh3 dX12_comes_118 (hc := ac_154) (hlen := ln_154 _ _) (K := ?_)
          refine ev_aload_n 1 dX12_comes_119 (k := ?_)
          refine ev_getR (t := 155) (x := some (155, 0)) fl_X12_161 dX12_comes_120 (hx := ry_12_55 _ _) (K := ?_)
          refine ev_iload_n 3 dX12_comes_123 (k := ?_)
          refine ev_iconst dX12_comes_124 (k := ?_)
          obtain ⟨⟨hi0, hi1⟩, H6⟩ := g_e H5
          clear H5
          obtain ⟨h4, eh4, H7⟩ := lt_e H6
          clear H6
          refine ev_iastore (k := 155) j_ok1 hi0 hi1 eh4 dX12_comes_125 (hc := ac_155) (hlen := ln_155 _ _) (K := ?_)
          refine ev_aload_n 1 dX12_comes_126 (k := ?_)
          refine ev_getR (t := 137) (x := some (137, 0)) fl_X12_107 dX12_comes_127 (hx := ry_12_37 _ _) (K := ?_)
          refine ev_iload 4 dX12_comes_130 (k := ?_)
          refine ev_iconst dX12_comes_132 (k := ?_)
          obtain ⟨⟨hi0, hi1⟩, H8⟩ := g_e H7
          clear H7
          obtain ⟨h5, eh5, H9⟩ := lt_e H8
          clear H8
          refine ev_iastore (k := 137) j_ok1 hi0 hi1 eh5 dX12_comes_133 (hc := ac_137) (hlen := ln_137 _ _) (K := ?_)
          refine ev_aload_n 1 dX12_comes_134 (k := ?_)
          refine ev_iload 4 dX12_comes_135 (k := ?_)
          obtain ⟨h6, hq, H10⟩ := bd_e H9
          clear H9
          refine ev_callV (mc := 0) (ms := 0) (st := []) (C12_toFar hq) md_X12_toFar im_X12_toFar se_X12_toFar ml_X12_340 dX12_comes_137 _ (by decide) (K := ?_)
          refine ev_aload_n 1 dX12_comes_140 (k := ?_)
          refine ev_iload_n 2 dX12_comes_141 (k := ?_)
          obtain ⟨h7, hq, H11⟩ := bd_e H10
          clear H10
          refine ev_callV (mc := 0) (ms := 0) (st := []) (C12_incoming hq) md_X12_incoming im_X12_incoming se_X12_incoming ml_X12_415 dX12_comes_142 _ (by decide) (K := ?_)
          refine ev_goto 330 dX12_comes_145 (k := ?_)
          cases H11
          exact ev_return dX12_comes_330
  · replace H1 := if_ne hs0 H1
    by_cases hs1 : h.1 168 0 1 = 2
    · replace H1 := if_pe hs1 H1
      refine ev_tableIn (off := 113) 165 dX12_comes_52 (by omega) (by omega) (by rw [hs1]; rfl) (k := ?_)
      refine ev_iload 0 dX12_comes_165 (k := ?_)
      refine ev_ifeq 330 dX12_comes_167 (kt := fun hc => ?_) (kf := fun hc => ?_)
      · replace H1 := if_pe hc H1
        cases H1
        exact ev_return dX12_comes_330
      · replace H1 := if_ne hc H1
        refine ev_aload_n 1 dX12_comes_170 (k := ?_)
        refine ev_getR (t := 133) (x := some (133, 0)) fl_X12_95 dX12_comes_171 (hx := ry_12_33 _ _) (K := ?_)
        refine ev_iload 4 dX12_comes_174 (k := ?_)
        obtain ⟨⟨hi0, hi1⟩, H2⟩ := g_e H1
        clear H1
        refine ev_iaload (k := 133) hi0 hi1 dX12_comes_176 (hc := ac_133) (hlen := ln_133 _ _) (K := ?_)
        refine ev_iconst dX12_comes_177 (k := ?_)
        refine ev_icmpne 330 dX12_comes_178 (kt := fun hc => ?_) (kf := fun hc => ?_)
        · replace H2 := if_ne hc H2
          cases H2
          exact ev_return dX12_comes_330
        · replace H2 := if_pe hc H2
          refine ev_aload_n 1 dX12_comes_181 (k := ?_)
          refine ev_iload 4 dX12_comes_182 (k := ?_)
          refine ev_iconst dX12_comes_184 (k := ?_)
          obtain ⟨h8, hq, H3⟩ := bd_e H2
          clear H2
          refine ev_callV (mc := 0) (ms := 0) (st := []) (C12_becomes hq) md_X12_becomes im_X12_becomes se_X12_becomes ml_X12_361 dX12_comes_185 _ (by decide) (K := ?_)
          refine ev_aload_n 1 dX12_comes_188 (k := ?_)
          refine ev_iload 4 dX12_comes_189 (k := ?_)
          obtain ⟨h9, hq, H4⟩ := bd_e H3
          clear H3
          refine ev_callV (mc := 0) (ms := 0) (st := []) (C12_acm hq) md_X12_acm im_X12_acm se_X12_acm ml_X12_364 dX12_comes_191 _ (by decide) (K := ?_)
          refine ev_goto 330 dX12_comes_194 (k := ?_)
          cases H4
          exact ev_return dX12_comes_330
    · replace H1 := if_ne hs1 H1
      by_cases hs2 : h.1 168 0 1 = 3
      · replace H1 := if_pe hs2 H1
        refine ev_tableIn (off := 145) 197 dX12_comes_52 (by omega) (by omega) (by rw [hs2]; rfl) (k := ?_)
        refine ev_iload 0 dX12_comes_197 (k := ?_)
        refine ev_ifeq 330 dX12_comes_199 (kt := fun hc => ?_) (kf := fun hc => ?_)
        · replace H1 := if_pe hc H1
          cases H1
          exact ev_return dX12_comes_330
        · replace H1 := if_ne hc H1
          refine ev_aload_n 1 dX12_comes_202 (k := ?_)
          refine ev_getR (t := 133) (x := some (133, 0)) fl_X12_95 dX12_comes_203 (hx := ry_12_33 _ _) (K := ?_)
          refine ev_iload 4 dX12_comes_206 (k := ?_)
          obtain ⟨⟨hi0, hi1⟩, H2⟩ := g_e H1
          clear H1
          refine ev_iaload (k := 133) hi0 hi1 dX12_comes_208 (hc := ac_133) (hlen := ln_133 _ _) (K := ?_)
          refine ev_iconst dX12_comes_209 (k := ?_)
          refine ev_icmpeq 224 dX12_comes_210 (kt := fun hc => ?_) (kf := fun hc => ?_)
          · replace H2 := if_pe hc H2
            refine ev_lv [1, 4] [(0, .inr (.inr (some (12, 0)))), (4, .inl (l4))] (k := ?_)
            exact E12_comes_224 l4 h _ H2
          · replace H2 := if_ne hc H2
            refine ev_aload_n 1 dX12_comes_213 (k := ?_)
            refine ev_getR (t := 133) (x := some (133, 0)) fl_X12_95 dX12_comes_214 (hx := ry_12_33 _ _) (K := ?_)
            refine ev_iload 4 dX12_comes_217 (k := ?_)
            obtain ⟨⟨hi0, hi1⟩, H3⟩ := g_e H2
            clear H2
            refine ev_iaload (k := 133) hi0 hi1 dX12_comes_219 (hc := ac_133) (hlen := ln_133 _ _) (K := ?_)
            refine ev_iconst dX12_comes_220 (k := ?_)
            refine ev_icmpne 330 dX12_comes_221 (kt := fun hc => ?_) (kf := fun hc => ?_)
            · replace H3 := if_ne hc H3
              cases H3
              exact ev_return dX12_comes_330
            · replace H3 := if_pe hc H3
              refine ev_lv [1, 4] [(0, .inr (.inr (some (12, 0)))), (4, .inl (l4))] (k := ?_)
              exact E12_comes_224 l4 h _ H3
      · replace H1 := if_ne hs2 H1
        by_cases hs3 : h.1 168 0 1 = 4
        · replace H1 := if_pe hs3 H1
          refine ev_tableIn (off := 181) 233 dX12_comes_52 (by omega) (by omega) (by rw [hs3]; rfl) (k := ?_)
          refine ev_aload_n 1 dX12_comes_233 (k := ?_)
          refine ev_getR (t := 154) (x := some (154, 0)) fl_X12_158 dX12_comes_234 (hx := ry_12_54 _ _) (K := ?_)
          refine ev_iload_n 3 dX12_comes_237 (k := ?_)
          obtain ⟨⟨hi0, hi1⟩, H2⟩ := g_e H1
          clear H1
          refine ev_iaload (k := 154) hi0 hi1 dX12_comes_238 (hc := ac_154) (hlen := ln_154 _ _) (K := ?_)
          refine ev_ifeq 330 dX12_comes_239 (kt := fun hc => ?_) (kf := fun hc => ?_)
          · replace H2 := if_pe hc H2
            cases H2
            exact ev_return dX12_comes_330
          · replace H2 := if_ne hc H2
            refine ev_aload_n 1 dX12_comes_242 (k := ?_)
            refine ev_getR (t := 168) (x := some (168, 0)) fl_X12_197 dX12_comes_243 (hx := ry_12_68 _ _) (K := ?_)
            refine ev_iconst dX12_comes_246 (k := ?_)
            obtain ⟨⟨hi0, hi1⟩, H3⟩ := g_e H2
            clear H2
            refine ev_iaload (k := 168) hi0 hi1 dX12_comes_247 (hc := ac_168) (hlen := ln_168 _ _) (K := ?_)
            obtain ⟨x10, ex10, H4⟩ := lt_e H3
            clear H3
            refine ev_topI ex10 ?_
            refine ev_istore [(6, .inl (x10)), (5, .inl (s0)), (0, .inr (.inr (some (12, 0)))), (1, .inl (l1)), (3, .inl (l3)), (4, .inl (l4))] dX12_comes_248 (k := ?_)
            refine ev_aload_n 2 dX12_comes_250 (k := ?_)
            refine ev_getR (t := 168) (x := some (168, 0)) fl_X12_197 dX12_comes_251 (hx := ry_12_68 _ _) (K := ?_)
            refine ev_iconst dX12_comes_254 (k := ?_)
            obtain ⟨⟨hi0, hi1⟩, H5⟩ := g_e H4
            clear H4
            refine ev_iaload (k := 168) hi0 hi1 dX12_comes_255 (hc := ac_168) (hlen := ln_168 _ _) (K := ?_)
            obtain ⟨x11, ex11, H6⟩ := lt_e H5
            clear H5
            refine ev_topI ex11 ?_
            refine ev_istore [(7, .inl (x11)), (6, .inl (x10)), (5, .inl (s0)), (0, .inr (.inr (some (12, 0)))), (1, .inl (l1)), (3, .inl (l3)), (4, .inl (l4))] dX12_comes_256 (k := ?_)
            refine ev_aload_n 3 dX12_comes_258 (k := ?_)
            refine ev_iload 0 dX12_comes_259 (k := ?_)
            refine ev_iconst dX12_comes_261 (k := ?_)
            obtain ⟨h12, hq, H7⟩ := bd_e H6
            clear H6
            refine ev_callV (mc := 0) (ms := 0) (st := []) (C12_begins hq) md_X12_begins im_X12_begins se_X12_begins ml_X12_352 dX12_comes_262 _ (by decide) (K := ?_)
            refine ev_aload_n 3 dX12_comes_265 (k := ?_)
            refine ev_iload_n 4 dX12_comes_266 (k := ?_)
            obtain ⟨h13, hq, H8⟩ := bd_e H7
            clear H7
            refine ev_callV (mc := 0) (ms := 0) (st := []) (C12_goes hq) md_X12_goes im_X12_goes se_X12_goes ml_X12_358 dX12_comes_267 _ (by decide) (K := ?_)
            refine ev_aload_n 3 dX12_comes_270 (k := ?_)
            refine ev_getR (t := 154) (x := some (154, 0)) fl_X12_158 dX12_comes_271 (hx := ry_12_54 _ _) (K := ?_)
            refine ev_iload_n 5 dX12_comes_274 (k := ?_)
            obtain ⟨⟨hi0, hi1⟩, H9⟩ := g_e H8
            clear H8
            refine ev_iaload (k := 154) hi0 hi1 dX12_comes_275 (hc := ac_154) (hlen := ln_154 _ _) (K := ?_)
            refine ev_iconst dX12_comes_276 (k := ?_)
            refine ev_icmpne 283 dX12_comes_277 (kt := fun hc => ?_) (kf := fun hc => ?_)
            · replace H9 := if_ne hc H9
              refine ev_aload_n 3 dX12_comes_283 (k := ?_)
              refine ev_getR (t := 154) (x := some (154, 0)) fl_X12_158 dX12_comes_284 (hx := ry_12_54 _ _) (K := ?_)
              refine ev_iload_n 5 dX12_comes_287 (k := ?_)
              refine ev_iconst dX12_comes_288 (k := ?_)
              obtain ⟨⟨hi0, hi1⟩, H10⟩ := g_e H9
              clear H9
              obtain ⟨h14, eh14, H11⟩ := lt_e H10
              clear H10
              refine ev_iastore (k := 154) j_ok1 hi0 hi1 eh14 dX12_comes_289 (hc := ac_154) (hlen := ln_154 _ _) (K := ?_)
              refine ev_aload_n 3 dX12_comes_290 (k := ?_)
              refine ev_getR (t := 155) (x := some (155, 0)) fl_X12_161 dX12_comes_291 (hx := ry_12_55 _ _) (K := ?_)
              refine ev_iload_n 5 dX12_comes_294 (k := ?_)
              refine ev_iconst dX12_comes_295 (k := ?_)
              obtain ⟨⟨hi0, hi1⟩, H12⟩ := g_e H11
              clear H11
              obtain ⟨h15, eh15, H13⟩ := lt_e H12
              clear H12
              refine ev_iastore (k := 155) j_ok1 hi0 hi1 eh15 dX12_comes_296 (hc := ac_155) (hlen := ln_155 _ _) (K := ?_)
              refine ev_aload_n 3 dX12_comes_297 (k := ?_)
              refine ev_iload 6 dX12_comes_298 (k := ?_)
              refine ev_iload 1 dX12_comes_300 (k := ?_)
              refine ev_bipush dX12_comes_302 (k := ?_)
              refine ev_iload 0 dX12_comes_304 (k := ?_)
              refine ev_iadd dX12_comes_306 (k := ?_)
              obtain ⟨h16, hq, H14⟩ := bd_e H13
              clear H13
              refine ev_callV (mc := 0) (ms := 0) (st := []) (C12_over hq) md_X12_over im_X12_over se_X12_over ml_X12_323 dX12_comes_307 _ (by decide) (K := ?_)
              refine ev_goto 330 dX12_comes_310 (k := ?_)
              cases H14
              exact ev_return dX12_comes_330
            · replace H9 := if_pe hc H9
              refine ev_goto 330 dX12_comes_280 (k := ?_)
              cases H9
              exact ev_return dX12_comes_330
        · replace H1 := if_ne hs3 H1
          refine ev_tableOut 313 dX12_comes_52 (by omega) (k := ?_)
          refine ev_aload_n 1 dX12_comes_313 (k := ?_)
          refine ev_getR (t := 154) (x := some (154, 0)) fl_X12_158 dX12_comes_314 (hx := ry_12_54 _ _) (K := ?_)
          refine ev_iload_n 3 dX12_comes_317 (k := ?_)
          obtain ⟨⟨hi0, hi1⟩, H2⟩ := g_e H1
          clear H1
          refine ev_iaload (k := 154) hi0 hi1 dX12_comes_318 (hc := ac_154) (hlen := ln_154 _ _) (K := ?_)
          refine ev_iconst dX12_comes_319 (k := ?_)
          refine ev_icmpne 330 dX12_comes_320 (kt := fun hc => ?_) (kf := fun hc => ?_)
          · replace H2 := if_ne hc H2
            cases H2
            exact ev_return dX12_comes_330
          · replace H2 := if_pe hc H2
            refine ev_aload_n 1 dX12_comes_323 (k := ?_)
            refine ev_getR (t := 154) (x := some (154, 0)) fl_X12_158 dX12_comes_324 (hx := ry_12_54 _ _) (K := ?_)
            refine ev_iload_n 3 dX12_comes_327 (k := ?_)
            refine ev_iconst dX12_comes_328 (k := ?_)
            obtain ⟨⟨hi0, hi1⟩, H3⟩ := g_e H2
            clear H2
            obtain ⟨h17, eh17, H4⟩ := lt_e H3
            clear H3
            refine ev_iastore (k := 154) j_ok1 hi0 hi1 eh17 dX12_comes_329 (hc := ac_154) (hlen := ln_154 _ _) (K := ?_)
            cases H4
            exact ev_return dX12_comes_330
set_option maxRecDepth 100000 in
set_option maxHeartbeats 4000000 in
theorem C12_comes {l1 : Int} {l2 : Int} {h : JM} {res : JM} (H : F12_comes l1 l2 h = some res) : Cn j_W1 90 0 0 yX12_comes cX12_comes 8 none [.inr (.inr (some (12, 0))), .inl (l1), .inl (l2)] h none res := by
  refine Cn.by (own := RX12) (b := false) [(0, .inr (.inr (some (12, 0)))), (1, .inl (l1)), (2, .inl (l2))] rfl (fun z => by cases z) (by decide +kernel) (K := ?_)
  unfold F12_comes at H
  refine ev_aload_n 0 dX12_comes_0 (k := ?_)
  refine ev_iload_n 2 dX12_comes_1 (k := ?_)
  obtain ⟨q18, hq, H1⟩ := bd_e H
  clear H
  refine ev_callV (mc := 0) (ms := 0) (st := []) (C12_isSo hq) md_X12_isSo im_X12_isSo se_X12_isSo ml_X12_412 dX12_comes_2 _ (by decide) (K := ?_)
  refine ev_ifne 9 dX12_comes_5 (kt := fun hc => ?_) (kf := fun hc => ?_)
  · replace H1 := if_ne hc H1
    refine ev_bipush dX12_comes_9 (k := ?_)
    refine ev_iload_n 1 dX12_comes_11 (k := ?_)
    refine ev_imul dX12_comes_12 (k := ?_)
    refine ev_aload_n 0 dX12_comes_13 (k := ?_)
    refine ev_getR (t := 168) (x := some (168, 0)) fl_X12_197 dX12_comes_14 (hx := ry_12_68 _ _) (K := ?_)
    refine ev_iconst dX12_comes_17 (k := ?_)
    obtain ⟨⟨hi0, hi1⟩, H2⟩ := g_e H1
    clear H1
    refine ev_iaload (k := 168) hi0 hi1 dX12_comes_18 (hc := ac_168) (hlen := ln_168 _ _) (K := ?_)
    refine ev_iadd dX12_comes_19 (k := ?_)
    obtain ⟨x19, ex19, H3⟩ := lt_e H2
    clear H2
    refine ev_topI ex19 ?_
    refine ev_istore_n [(3, .inl (x19)), (0, .inr (.inr (some (12, 0)))), (1, .inl (l1)), (2, .inl (l2))] dX12_comes_20 (k := ?_)
    refine ev_aload_n 1 dX12_comes_21 (k := ?_)
    refine ev_getR (t := 155) (x := some (155, 0)) fl_X12_161 dX12_comes_22 (hx := ry_12_55 _ _) (K := ?_)
    refine ev_iload_n 0 dX12_comes_25 (k := ?_)
    obtain ⟨⟨hi0, hi1⟩, H4⟩ := g_e H3
    clear H3
    refine ev_iaload (k := 155) hi0 hi1 dX12_comes_26 (hc := ac_155) (hlen := ln_155 _ _) (K := ?_)
    obtain ⟨x20, ex20, H5⟩ := lt_e H4
    clear H4
    refine ev_topI ex20 ?_
    refine ev_istore [(4, .inl (x20)), (3, .inl (x19)), (0, .inr (.inr (some (12, 0)))), (1, .inl (l1)), (2, .inl (l2))] dX12_comes_27 (k := ?_)
    refine ev_aload_n 2 dX12_comes_29 (k := ?_)
    refine ev_getR (t := 154) (x := some (154, 0)) fl_X12_158 dX12_comes_30 (hx := ry_12_54 _ _) (K := ?_)
    refine ev_iload_n 1 dX12_comes_33 (k := ?_)
    obtain ⟨⟨hi0, hi1⟩, H6⟩ := g_e H5
    clear H5
    refine ev_iaload (k := 154) hi0 hi1 dX12_comes_34 (hc := ac_154) (hlen := ln_154 _ _) (K := ?_)
    refine ev_iconst dX12_comes_35 (k := ?_)
    refine ev_icmpne 43 dX12_comes_36 (kt := fun hc => ?_) (kf := fun hc => ?_)
    · replace H6 := if_ne hc H6
      refine ev_iconst dX12_comes_43 (k := ?_)
      refine ev_lv [2, 3, 1, 0] [(0, .inr (.inr (some (12, 0)))), (1, .inl (l1)), (3, .inl (x19)), (4, .inl (x20))] (k := ?_)
      exact E12_comes_44 l1 x19 x20 0 q18.2 _ H6
    · replace H6 := if_pe hc H6
      refine ev_iconst dX12_comes_39 (k := ?_)
      refine ev_goto 44 dX12_comes_40 (k := ?_)
      refine ev_lv [2, 3, 1, 0] [(0, .inr (.inr (some (12, 0)))), (1, .inl (l1)), (3, .inl (x19)), (4, .inl (x20))] (k := ?_)
      exact E12_comes_44 l1 x19 x20 1 q18.2 _ H6
  · replace H1 := if_pe hc H1
    cases H1
    exact ev_return dX12_comes_8
-- X12_isLine
abbrev T12_isLine : JT := (RX12, cX12_isLine, 1, some .boolean, false)
set_option maxRecDepth 100000 in
set_option maxHeartbeats 4000000 in
theorem C12_isLine {l0 : Int} {h : JM} {res : (Int × JM)} (H : F12_isLine l0 h = some res) : Cn j_W1 2 0 0 yX12_isLine cX12_isLine 1 (some .boolean) [.inl (l0)] h (some (.inl res.1)) res.2 := by
  refine Cn.by (own := RX12) (b := false) [(0, .inl (l0))] rfl (fun z => by cases z) (by decide +kernel) (K := ?_)
  unfold F12_isLine at H
  refine ev_iload_n 0 dX12_isLine_0 (k := ?_)
  refine ev_i2l dX12_isLine_1 (k := ?_)
  refine ev_lconst (v := 0) dX12_isLine_2 (k := ?_)
  refine ev_ldc2 (n := 15) cl_X12_283 dX12_isLine_3 (k := ?_)
  obtain ⟨q1, hq, H1⟩ := bd_e H
  clear H
  refine ev_callS (mc := 0) (ms := 0) (st := []) (C12_in hq) md_X12_in ss_X12_in ml_X12_268 dX12_isLine_6 _ (by decide) (K := ?_)
  obtain ⟨hz, H2⟩ := g_e H1
  clear H1
  cases H2
  exact ev_zreturn hz dX12_isLine_9
-- X12_credit
abbrev T12_credit : JT := (RX12, cX12_credit, 4, some .int, false)
set_option maxRecDepth 100000 in
set_option maxHeartbeats 4000000 in
theorem E12_credit_21 (h : JM) (res : (Int × JM)) (H : F12_credit_21 h = some res) : Ev j_W1 3 0 0 T12_credit 21 [] [] h (some (.inl res.1)) res.2 := by
  unfold F12_credit_21 at H
  refine ev_bipush dX12_credit_21 (k := ?_)
  cases H
  exact ev_ireturn dX12_credit_23
set_option maxRecDepth 100000 in
set_option maxHeartbeats 4000000 in
theorem C12_credit {l1 : Int} {l2 : Int} {h : JM} {res : (Int × JM)} (H : F12_credit l1 l2 h = some res) : Cn j_W1 3 0 0 yX12_credit cX12_credit 4 (some .int) [.inr (.inr (some (12, 0))), .inl (l1), .inl (l2)] h (some (.inl res.1)) res.2 := by
  refine Cn.by (own := RX12) (b := false) [(0, .inr (.inr (some (12, 0)))), (1, .inl (l1)), (2, .inl (l2))] rfl (fun z => by cases z) (by decide +kernel) (K := ?_)
  unfold F12_credit at H
  refine ev_iload_n 1 dX12_credit_0 (k := ?_)
  obtain ⟨q1, hq, H1⟩ := bd_e H
  clear H
  refine ev_callS (mc := 0) (ms := 0) (st := []) (C12_isLine hq) md_X12_isLine ss_X12_isLine ml_X12_288 dX12_credit_1 _ (by decide) (K := ?_)
  refine ev_ifeq 21 dX12_credit_4 (kt := fun hc => ?_) (kf := fun hc => ?_)
  · replace H1 := if_pe hc H1
    refine ev_lv [] [] (k := ?_)
    exact E12_credit_21 q1.2 _ H1
  · replace H1 := if_ne hc H1
    refine ev_iload_n 2 dX12_credit_7 (k := ?_)
    refine ev_i2l dX12_credit_8 (k := ?_)
    refine ev_ldc2 (n := (-1)) cl_X12_292 dX12_credit_9 (k := ?_)
    refine ev_ldc2 (n := 1000000) cl_X12_294 dX12_credit_12 (k := ?_)
    obtain ⟨q2, hq, H2⟩ := bd_e H1
    clear H1
    refine ev_callS (mc := 0) (ms := 0) (st := []) (C12_in hq) md_X12_in ss_X12_in ml_X12_268 dX12_credit_15 _ (by decide) (K := ?_)
    refine ev_ifne 24 dX12_credit_18 (kt := fun hc => ?_) (kf := fun hc => ?_)
    · replace H2 := if_ne hc H2
      refine ev_aload_n 0 dX12_credit_24 (k := ?_)
      refine ev_getR (t := 126) (x := some (126, 0)) fl_X12_77 dX12_credit_25 (hx := ry_12_26 _ _) (K := ?_)
      refine ev_iload_n 1 dX12_credit_28 (k := ?_)
      obtain ⟨⟨hi0, hi1⟩, H3⟩ := g_e H2
      clear H2
      refine ev_iaload (k := 126) hi0 hi1 dX12_credit_29 (hc := ac_126) (hlen := ln_126 _ _) (K := ?_)
      obtain ⟨x3, ex3, H4⟩ := lt_e H3
      clear H3
      refine ev_topI ex3 ?_
      refine ev_istore_n [(3, .inl (x3)), (0, .inr (.inr (some (12, 0)))), (1, .inl (l1)), (2, .inl (l2))] dX12_credit_30 (k := ?_)
      refine ev_aload_n 1 dX12_credit_31 (k := ?_)
      refine ev_getR (t := 126) (x := some (126, 0)) fl_X12_77 dX12_credit_32 (hx := ry_12_26 _ _) (K := ?_)
      refine ev_iload_n 2 dX12_credit_35 (k := ?_)
      refine ev_iload_n 3 dX12_credit_36 (k := ?_)
      obtain ⟨⟨hi0, hi1⟩, H5⟩ := g_e H4
      clear H4
      obtain ⟨h4, eh4, H6⟩ := lt_e H5
      clear H5
      refine ev_iastore (k := 126) j_ok1 hi0 hi1 eh4 dX12_credit_37 (hc := ac_126) (hlen := ln_126 _ _) (K := ?_)
      refine ev_iload_n 0 dX12_credit_38 (k := ?_)
      cases H6
      exact ev_ireturn dX12_credit_39
    · replace H2 := if_pe hc H2
      refine ev_lv [] [] (k := ?_)
      exact E12_credit_21 q2.2 _ H2
-- X12_dial
abbrev T12_dial : JT := (RX12, cX12_dial, 3, some .int, false)
set_option maxRecDepth 100000 in
set_option maxHeartbeats 4000000 in
theorem E12_dial_28 (h : JM) (res : (Int × JM)) (H : F12_dial_28 h = some res) : Ev j_W1 3 0 0 T12_dial 28 [] [] h (some (.inl res.1)) res.2 := by
  unfold F12_dial_28 at H
  refine ev_bipush dX12_dial_28 (k := ?_)
  cases H
  exact ev_ireturn dX12_dial_30
set_option maxRecDepth 100000 in
set_option maxHeartbeats 4000000 in
theorem C12_dial {l1 : Int} {l2 : Int} {h : JM} {res : (Int × JM)} (H : F12_dial l1 l2 h = some res) : Cn j_W1 3 0 0 yX12_dial cX12_dial 3 (some .int) [.inr (.inr (some (12, 0))), .inl (l1), .inl (l2)] h (some (.inl res.1)) res.2 := by
  refine Cn.by (own := RX12) (b := false) [(0, .inr (.inr (some (12, 0)))), (1, .inl (l1)), (2, .inl (l2))] rfl (fun z => by cases z) (by decide +kernel) (K := ?_)
  unfold F12_dial at H
  refine ev_iload_n 1 dX12_dial_0 (k := ?_)
  obtain ⟨q1, hq, H1⟩ := bd_e H
  clear H
  refine ev_callS (mc := 0) (ms := 0) (st := []) (C12_isLine hq) md_X12_isLine ss_X12_isLine ml_X12_288 dX12_dial_1 _ (by decide) (K := ?_)
  refine ev_ifeq 28 dX12_dial_4 (kt := fun hc => ?_) (kf := fun hc => ?_)
  · replace H1 := if_pe hc H1
    refine ev_lv [] [] (k := ?_)
    exact E12_dial_28 q1.2 _ H1
  · replace H1 := if_ne hc H1
    refine ev_iload_n 2 dX12_dial_7 (k := ?_)
    refine ev_i2l dX12_dial_8 (k := ?_)
    refine ev_lconst (v := 0) dX12_dial_9 (k := ?_)
    refine ev_ldc2 (n := 11) cl_X12_266 dX12_dial_10 (k := ?_)
    obtain ⟨q2, hq, H2⟩ := bd_e H1
    clear H1
    refine ev_callS (mc := 0) (ms := 0) (st := []) (C12_in hq) md_X12_in ss_X12_in ml_X12_268 dX12_dial_13 _ (by decide) (K := ?_)
    refine ev_ifeq 28 dX12_dial_16 (kt := fun hc => ?_) (kf := fun hc => ?_)
    · replace H2 := if_pe hc H2
      refine ev_lv [] [] (k := ?_)
      exact E12_dial_28 q2.2 _ H2
    · replace H2 := if_ne hc H2
      refine ev_aload_n 0 dX12_dial_19 (k := ?_)
      refine ev_getR (t := 112) (x := some (112, 0)) fl_X12_34 dX12_dial_20 (hx := ry_12_12 _ _) (K := ?_)
      refine ev_iload_n 1 dX12_dial_23 (k := ?_)
      obtain ⟨⟨hi0, hi1⟩, H3⟩ := g_e H2
      clear H2
      refine ev_zaload (k := 112) hi0 hi1 dX12_dial_24 (hc := ac_112) (hlen := ln_112 _ _) (K := ?_)
      refine ev_ifne 31 dX12_dial_25 (kt := fun hc => ?_) (kf := fun hc => ?_)
      · replace H3 := if_ne hc H3
        refine ev_aload_n 0 dX12_dial_31 (k := ?_)
        refine ev_getR (t := 118) (x := some (118, 0)) fl_X12_53 dX12_dial_32 (hx := ry_12_18 _ _) (K := ?_)
        refine ev_iload_n 1 dX12_dial_35 (k := ?_)
        obtain ⟨⟨hi0, hi1⟩, H4⟩ := g_e H3
        clear H3
        refine ev_iaload (k := 118) hi0 hi1 dX12_dial_36 (hc := ac_118) (hlen := ln_118 _ _) (K := ?_)
        refine ev_bipush dX12_dial_37 (k := ?_)
        refine ev_icmpne 45 dX12_dial_39 (kt := fun hc => ?_) (kf := fun hc => ?_)
        · replace H4 := if_ne hc H4
          refine ev_aload_n 0 dX12_dial_45 (k := ?_)
          refine ev_getR (t := 117) (x := some (117, 0)) fl_X12_50 dX12_dial_46 (hx := ry_12_17 _ _) (K := ?_)
          refine ev_bipush dX12_dial_49 (k := ?_)
          refine ev_iload_n 1 dX12_dial_51 (k := ?_)
          refine ev_imul dX12_dial_52 (k := ?_)
          refine ev_aload_n 0 dX12_dial_53 (k := ?_)
          refine ev_getR (t := 118) (x := some (118, 0)) fl_X12_53 dX12_dial_54 (hx := ry_12_18 _ _) (K := ?_)
          refine ev_iload_n 1 dX12_dial_57 (k := ?_)
          refine ev_dup2 dX12_dial_58 (k := ?_)
          obtain ⟨⟨hi0, hi1⟩, H5⟩ := g_e H4
          clear H4
          refine ev_iaload (k := 118) hi0 hi1 dX12_dial_59 (hc := ac_118) (hlen := ln_118 _ _) (K := ?_)
          refine ev_dup_x2 dX12_dial_60 (k := ?_)
          refine ev_iconst dX12_dial_61 (k := ?_)
          refine ev_iadd dX12_dial_62 (k := ?_)
          obtain ⟨⟨hi0, hi1⟩, H6⟩ := g_e H5
          clear H5
          obtain ⟨h3, eh3, H7⟩ := lt_e H6
          clear H6
          refine ev_iastore (k := 118) j_ok1 hi0 hi1 eh3 dX12_dial_63 (hc := ac_118) (hlen := ln_118 _ _) (K := ?_)
          refine ev_iadd dX12_dial_64 (k := ?_)
          refine ev_iload_n 2 dX12_dial_65 (k := ?_)
          obtain ⟨⟨hi0, hi1⟩, H8⟩ := g_e H7
          clear H7
          obtain ⟨h4, eh4, H9⟩ := lt_e H8
          clear H8
          refine ev_iastore (k := 117) j_ok1 hi0 hi1 eh4 dX12_dial_66 (hc := ac_117) (hlen := ln_117 _ _) (K := ?_)
          refine ev_aload_n 0 dX12_dial_67 (k := ?_)
          refine ev_getR (t := 118) (x := some (118, 0)) fl_X12_53 dX12_dial_68 (hx := ry_12_18 _ _) (K := ?_)
          refine ev_iload_n 1 dX12_dial_71 (k := ?_)
          obtain ⟨⟨hi0, hi1⟩, H10⟩ := g_e H9
          clear H9
          refine ev_iaload (k := 118) hi0 hi1 dX12_dial_72 (hc := ac_118) (hlen := ln_118 _ _) (K := ?_)
          cases H10
          exact ev_ireturn dX12_dial_73
        · replace H4 := if_pe hc H4
          refine ev_bipush dX12_dial_42 (k := ?_)
          cases H4
          exact ev_ireturn dX12_dial_44
      · replace H3 := if_pe hc H3
        refine ev_lv [] [] (k := ?_)
        exact E12_dial_28 q2.2 _ H3
