-- X12_serves
abbrev T12_serves : JT := (RX12, cX12_serves, 4, none, false)
set_option maxRecDepth 100000 in
set_option maxHeartbeats 4000000 in
theorem E12_serves_6b (k6 : Int → Int → JM → Option JM) (hk6 : ∀ (l1 : Int) (l2 : Int) (h : JM) (res : JM), k6 l1 l2 h = some res → Ev j_W1 4 0 0 T12_serves 6 [(0, .inr (.inr (some (12, 0)))), (1, .inl (l1)), (2, .inl (l2))] [] h none res) (l1 : Int) (l2 : Int) (h : JM) (res : JM) (H : F12_serves_6b k6 l1 l2 h = some res) : Ev j_W1 4 0 0 T12_serves 6 [(0, .inr (.inr (some (12, 0)))), (1, .inl (l1)), (2, .inl (l2))] [] h none res := by
  unfold F12_serves_6b at H
  refine ev_aload_n (M := T12_serves) (pc := 6) 0 dX12_serves_6 (k := ?_)
  refine ev_getR (M := T12_serves) (pc := 7) (t := 153) (x := some (153, 0)) fl_X12_155 dX12_serves_7 (hx := ry_12_53 _ _) (K := ?_)
  refine ev_iload_n (M := T12_serves) (pc := 10) 1 dX12_serves_10 (k := ?_)
  obtain ⟨⟨hi0, hi1⟩, H1⟩ := g_e H
  clear H
  refine ev_iaload (M := T12_serves) (pc := 11) (k := 153) hi0 hi1 dX12_serves_11 (hc := ac_153) (hlen := ln_153 _ _) (K := ?_)
  refine ev_ifle (M := T12_serves) (pc := 12) 60 dX12_serves_12 (kt := fun hc => ?_) (kf := fun hc => ?_)
  · replace H1 := if_pe hc H1
    cases H1
    exact ev_return (M := T12_serves) (pc := 60) dX12_serves_60
  · replace H1 := if_ne hc H1
    refine ev_iload_n (M := T12_serves) (pc := 15) 2 dX12_serves_15 (k := ?_)
    refine ev_iconst (M := T12_serves) (pc := 16) dX12_serves_16 (k := ?_)
    refine ev_icmpeq (M := T12_serves) (pc := 17) 60 dX12_serves_17 (kt := fun hc => ?_) (kf := fun hc => ?_)
    · replace H1 := if_pe hc H1
      cases H1
      exact ev_return (M := T12_serves) (pc := 60) dX12_serves_60
    · replace H1 := if_ne hc H1
      refine ev_aload_n (M := T12_serves) (pc := 20) 0 dX12_serves_20 (k := ?_)
      refine ev_getR (M := T12_serves) (pc := 21) (t := 152) (x := some (152, 0)) fl_X12_152 dX12_serves_21 (hx := ry_12_52 _ _) (K := ?_)
      refine ev_bipush (M := T12_serves) (pc := 24) dX12_serves_24 (k := ?_)
      refine ev_iload_n (M := T12_serves) (pc := 26) 1 dX12_serves_26 (k := ?_)
      refine ev_imul (M := T12_serves) (pc := 27) dX12_serves_27 (k := ?_)
      obtain ⟨⟨hi0, hi1⟩, H2⟩ := g_e H1
      clear H1
      refine ev_iaload (M := T12_serves) (pc := 28) (k := 152) hi0 hi1 dX12_serves_28 (hc := ac_152) (hlen := ln_152 _ _) (K := ?_)
      obtain ⟨x1, ex1, H3⟩ := lt_e H2
      clear H2
      refine ev_topI ex1 ?_
      refine ev_istore_n (M := T12_serves) (pc := 29) [(3, .inl (x1)), (0, .inr (.inr (some (12, 0)))), (1, .inl (l1)), (2, .inl (l2))] dX12_serves_29 (k := ?_)
      refine ev_aload_n (M := T12_serves) (pc := 30) 1 dX12_serves_30 (k := ?_)
      refine ev_iload_n (M := T12_serves) (pc := 31) 0 dX12_serves_31 (k := ?_)
      obtain ⟨h2, hq, H4⟩ := bd_e H3
      clear H3
      refine ev_callV (M := T12_serves) (pc := 32) (mc := 0) (ms := 0) (st := []) (C12_leaves hq) md_X12_leaves im_X12_leaves se_X12_leaves ml_X12_390 dX12_serves_32 _ (by decide) (K := ?_)
      refine ev_aload_n (M := T12_serves) (pc := 35) 1 dX12_serves_35 (k := ?_)
      refine ev_getR (M := T12_serves) (pc := 36) (t := 121) (x := some (121, 0)) fl_X12_62 dX12_serves_36 (hx := ry_12_21 _ _) (K := ?_)
      refine ev_iload_n (M := T12_serves) (pc := 39) 3 dX12_serves_39 (k := ?_)
      refine ev_iload_n (M := T12_serves) (pc := 40) 0 dX12_serves_40 (k := ?_)
      obtain ⟨⟨hi0, hi1⟩, H5⟩ := g_e H4
      clear H4
      obtain ⟨h3, eh3, H6⟩ := lt_e H5
      clear H5
      refine ev_iastore (M := T12_serves) (pc := 41) (k := 121) j_ok1 hi0 hi1 eh3 dX12_serves_41 (hc := ac_121) (hlen := ln_121 _ _) (K := ?_)
      refine ev_aload_n (M := T12_serves) (pc := 42) 1 dX12_serves_42 (k := ?_)
      refine ev_iload_n (M := T12_serves) (pc := 43) 0 dX12_serves_43 (k := ?_)
      refine ev_iload_n (M := T12_serves) (pc := 44) 3 dX12_serves_44 (k := ?_)
      refine ev_iload_n (M := T12_serves) (pc := 45) 2 dX12_serves_45 (k := ?_)
      refine ev_iconst (M := T12_serves) (pc := 46) dX12_serves_46 (k := ?_)
      refine ev_irem (M := T12_serves) (pc := 47) dX12_serves_47 (by decide) (k := ?_)
      obtain ⟨h4, hq, H7⟩ := bd_e H6
      clear H6
      refine ev_callV (M := T12_serves) (pc := 48) (mc := 0) (ms := 0) (st := []) (C12_rings hq) md_X12_rings im_X12_rings se_X12_rings ml_X12_373 dX12_serves_48 _ (by decide) (K := ?_)
      refine ev_aload_n (M := T12_serves) (pc := 51) 1 dX12_serves_51 (k := ?_)
      refine ev_iload_n (M := T12_serves) (pc := 52) 2 dX12_serves_52 (k := ?_)
      obtain ⟨q5, hq, H8⟩ := bd_e H7
      clear H7
      refine ev_callV (M := T12_serves) (pc := 53) (mc := 0) (ms := 0) (st := []) (C12_ready hq) md_X12_ready im_X12_ready se_X12_ready ml_X12_407 dX12_serves_53 _ (by decide) (K := ?_)
      refine ev_istore_n (M := T12_serves) (pc := 56) [(2, .inl (q5.1)), (3, .inl (x1)), (0, .inr (.inr (some (12, 0)))), (1, .inl (l1))] dX12_serves_56 (k := ?_)
      refine ev_goto (M := T12_serves) (pc := 57) 6 dX12_serves_57 (k := ?_)
      refine ev_lv [2, 3, 0] [(0, .inr (.inr (some (12, 0)))), (1, .inl (l1)), (2, .inl (q5.1))] (k := ?_)
      exact hk6 l1 q5.1 q5.2 _ H8
theorem E12_serves_6 (n : Nat) : ∀ (l1 : Int) (l2 : Int) (h : JM) (res : JM), F12_serves_6 n l1 l2 h = some res → Ev j_W1 4 0 0 T12_serves 6 [(0, .inr (.inr (some (12, 0)))), (1, .inl (l1)), (2, .inl (l2))] [] h none res := by
  induction n with
  | zero =>
    intro l1 l2 h res H
    cases H
  | succ n ih =>
    intro l1 l2 h res H
    exact E12_serves_6b (F12_serves_6 n) ih l1 l2 h res H
set_option maxRecDepth 100000 in
set_option maxHeartbeats 4000000 in
theorem C12_serves {l1 : Int} {h : JM} {res : JM} (H : F12_serves l1 h = some res) : Cn j_W1 4 0 0 yX12_serves cX12_serves 4 none [.inr (.inr (some (12, 0))), .inl (l1)] h none res := by
  refine Cn.by (own := RX12) (b := false) [(0, .inr (.inr (some (12, 0)))), (1, .inl (l1))] rfl (fun z => by cases z) (by decide +kernel) (K := ?_)
  unfold F12_serves at H
  refine ev_aload_n (M := T12_serves) (pc := 0) 0 dX12_serves_0 (k := ?_)
  refine ev_iload_n (M := T12_serves) (pc := 1) 1 dX12_serves_1 (k := ?_)
  obtain ⟨q6, hq, H1⟩ := bd_e H
  clear H
  refine ev_callV (M := T12_serves) (pc := 2) (mc := 0) (ms := 0) (st := []) (C12_ready hq) md_X12_ready im_X12_ready se_X12_ready ml_X12_407 dX12_serves_2 _ (by decide) (K := ?_)
  refine ev_istore_n (M := T12_serves) (pc := 5) [(2, .inl (q6.1)), (0, .inr (.inr (some (12, 0)))), (1, .inl (l1))] dX12_serves_5 (k := ?_)
  refine ev_lv [1, 2, 0] [(0, .inr (.inr (some (12, 0)))), (1, .inl (l1)), (2, .inl (q6.1))] (k := ?_)
  exact E12_serves_6 j_fu l1 q6.1 q6.2 _ H1
-- X12_speaks
abbrev T12_speaks : JT := (RX12, cX12_speaks, 3, none, false)
set_option maxRecDepth 100000 in
set_option maxHeartbeats 4000000 in
theorem E12_speaks_153b (k153 : Int → JM → Option JM) (hk153 : ∀ (l1 : Int) (h : JM) (res : JM), k153 l1 h = some res → Ev j_W1 6 0 0 T12_speaks 153 [(0, .inr (.inr (some (12, 0)))), (1, .inl (l1))] [] h none res) (l1 : Int) (h : JM) (res : JM) (H : F12_speaks_153b k153 l1 h = some res) : Ev j_W1 6 0 0 T12_speaks 153 [(0, .inr (.inr (some (12, 0)))), (1, .inl (l1))] [] h none res := by
  unfold F12_speaks_153b at H
  refine ev_iload_n (M := T12_speaks) (pc := 153) 1 dX12_speaks_153 (k := ?_)
  refine ev_bipush (M := T12_speaks) (pc := 154) dX12_speaks_154 (k := ?_)
  refine ev_icmpge (M := T12_speaks) (pc := 156) 177 dX12_speaks_156 (kt := fun hc => ?_) (kf := fun hc => ?_)
  · replace H := if_pe hc H
    cases H
    exact ev_return (M := T12_speaks) (pc := 177) dX12_speaks_177
  · replace H := if_ne hc H
    refine ev_aload_n (M := T12_speaks) (pc := 159) 0 dX12_speaks_159 (k := ?_)
    refine ev_getR (M := T12_speaks) (pc := 160) (t := 184) (x := some (184, 0)) fl_X12_234 dX12_speaks_160 (hx := ry_12_84 _ _) (K := ?_)
    refine ev_iload_n (M := T12_speaks) (pc := 163) 1 dX12_speaks_163 (k := ?_)
    refine ev_aload_n (M := T12_speaks) (pc := 164) 0 dX12_speaks_164 (k := ?_)
    refine ev_getR (M := T12_speaks) (pc := 165) (t := 185) (x := some (185, 0)) fl_X12_237 dX12_speaks_165 (hx := ry_12_85 _ _) (K := ?_)
    refine ev_iload_n (M := T12_speaks) (pc := 168) 1 dX12_speaks_168 (k := ?_)
    obtain ⟨⟨hi0, hi1⟩, H1⟩ := g_e H
    clear H
    refine ev_iaload (M := T12_speaks) (pc := 169) (k := 185) hi0 hi1 dX12_speaks_169 (hc := ac_185) (hlen := ln_185 _ _) (K := ?_)
    obtain ⟨⟨hi0, hi1⟩, H2⟩ := g_e H1
    clear H1
    obtain ⟨h1, eh1, H3⟩ := lt_e H2
    clear H2
    refine ev_iastore (M := T12_speaks) (pc := 170) (k := 184) j_ok1 hi0 hi1 eh1 dX12_speaks_170 (hc := ac_184) (hlen := ln_184 _ _) (K := ?_)
    refine ev_iinc (M := T12_speaks) (pc := 171) 1 [(1, .inl (w32 (l1 + 1))), (0, .inr (.inr (some (12, 0))))] dX12_speaks_171 (k := ?_)
    refine ev_goto (M := T12_speaks) (pc := 174) 153 dX12_speaks_174 (k := ?_)
    refine ev_lv [1, 0] [(0, .inr (.inr (some (12, 0)))), (1, .inl (w32 (l1 + 1)))] (k := ?_)
    exact hk153 (w32 (l1 + 1)) h1 _ H3
theorem E12_speaks_153 (n : Nat) : ∀ (l1 : Int) (h : JM) (res : JM), F12_speaks_153 n l1 h = some res → Ev j_W1 6 0 0 T12_speaks 153 [(0, .inr (.inr (some (12, 0)))), (1, .inl (l1))] [] h none res := by
  induction n with
  | zero =>
    intro l1 h res H
    cases H
  | succ n ih =>
    intro l1 h res H
    exact E12_speaks_153b (F12_speaks_153 n) ih l1 h res H
set_option maxRecDepth 100000 in
set_option maxHeartbeats 4000000 in
theorem E12_speaks_145 (k48 : Int → JM → Option JM) (hk48 : ∀ (l1 : Int) (h : JM) (res : JM), k48 l1 h = some res → Ev j_W1 6 0 0 T12_speaks 48 [(0, .inr (.inr (some (12, 0)))), (1, .inl (l1))] [] h none res) (l1 : Int) (h : JM) (res : JM) (H : F12_speaks_145 k48 l1 h = some res) : Ev j_W1 6 0 0 T12_speaks 145 [(0, .inr (.inr (some (12, 0)))), (1, .inl (l1))] [] h none res := by
  unfold F12_speaks_145 at H
  refine ev_iinc (M := T12_speaks) (pc := 145) 1 [(1, .inl (w32 (l1 + 1))), (0, .inr (.inr (some (12, 0))))] dX12_speaks_145 (k := ?_)
  refine ev_goto (M := T12_speaks) (pc := 148) 48 dX12_speaks_148 (k := ?_)
  refine ev_lv [1, 0] [(0, .inr (.inr (some (12, 0)))), (1, .inl (w32 (l1 + 1)))] (k := ?_)
  exact hk48 (w32 (l1 + 1)) h _ H
set_option maxRecDepth 100000 in
set_option maxHeartbeats 4000000 in
theorem E12_speaks_116 (k48 : Int → JM → Option JM) (hk48 : ∀ (l1 : Int) (h : JM) (res : JM), k48 l1 h = some res → Ev j_W1 6 0 0 T12_speaks 48 [(0, .inr (.inr (some (12, 0)))), (1, .inl (l1))] [] h none res) (l1 : Int) (l2 : Int) (s0 : Option Int) (s1 : Int) (s2 : Int) (s3 : Int) (h : JM) (res : JM) (H : F12_speaks_116 k48 l1 l2 s0 s1 s2 s3 h = some res) : Ev j_W1 6 0 0 T12_speaks 116 [(0, .inr (.inr (some (12, 0)))), (1, .inl (l1)), (2, .inl (l2))] [.inl (s3), .inl (s2), .inl (s1), .inr (.inr (Option.map (Prod.mk 12) (s0)))] h none res := by
  unfold F12_speaks_116 at H
  obtain ⟨a2, ea2, H1⟩ := bd_e H
  clear H
  obtain ⟨hz, H2⟩ := g_e H1
  clear H1
  rw [ea2, hz]
  obtain ⟨h3, hq, H3⟩ := bd_e H2
  clear H2
  refine ev_callV (M := T12_speaks) (pc := 116) (mc := 0) (ms := 0) (st := []) (C12_gets hq) md_X12_gets im_X12_gets se_X12_gets ml_X12_477 dX12_speaks_116 _ (by decide) (K := ?_)
  refine ev_iload_n (M := T12_speaks) (pc := 119) 2 dX12_speaks_119 (k := ?_)
  refine ev_ifne (M := T12_speaks) (pc := 120) 145 dX12_speaks_120 (kt := fun hc => ?_) (kf := fun hc => ?_)
  · replace H3 := if_ne hc H3
    refine ev_lv [0, 1] [(0, .inr (.inr (some (12, 0)))), (1, .inl (l1))] (k := ?_)
    exact E12_speaks_145 k48 hk48 l1 h3 _ H3
  · replace H3 := if_pe hc H3
    refine ev_aload_n (M := T12_speaks) (pc := 123) 0 dX12_speaks_123 (k := ?_)
    refine ev_iload_n (M := T12_speaks) (pc := 124) 1 dX12_speaks_124 (k := ?_)
    refine ev_aload_n (M := T12_speaks) (pc := 125) 0 dX12_speaks_125 (k := ?_)
    refine ev_getR (M := T12_speaks) (pc := 126) (t := 137) (x := some (137, 0)) fl_X12_107 dX12_speaks_126 (hx := ry_12_37 _ _) (K := ?_)
    refine ev_iload_n (M := T12_speaks) (pc := 129) 1 dX12_speaks_129 (k := ?_)
    obtain ⟨⟨hi0, hi1⟩, H4⟩ := g_e H3
    clear H3
    refine ev_iaload (M := T12_speaks) (pc := 130) (k := 137) hi0 hi1 dX12_speaks_130 (hc := ac_137) (hlen := ln_137 _ _) (K := ?_)
    refine ev_aload_n (M := T12_speaks) (pc := 131) 0 dX12_speaks_131 (k := ?_)
    refine ev_iload_n (M := T12_speaks) (pc := 132) 1 dX12_speaks_132 (k := ?_)
    refine ev_aload_n (M := T12_speaks) (pc := 133) 0 dX12_speaks_133 (k := ?_)
    refine ev_getR (M := T12_speaks) (pc := 134) (t := 136) (x := some (136, 0)) fl_X12_104 dX12_speaks_134 (hx := ry_12_36 _ _) (K := ?_)
    refine ev_iload_n (M := T12_speaks) (pc := 137) 1 dX12_speaks_137 (k := ?_)
    obtain ⟨⟨hi0, hi1⟩, H5⟩ := g_e H4
    clear H4
    refine ev_iaload (M := T12_speaks) (pc := 138) (k := 136) hi0 hi1 dX12_speaks_138 (hc := ac_136) (hlen := ln_136 _ _) (K := ?_)
    obtain ⟨q4, hq, H6⟩ := bd_e H5
    clear H5
    refine ev_callV (M := T12_speaks) (pc := 139) (mc := 0) (ms := 0) (st := [.inl (h3.1 137 0 l1), .inl (l1), .inr (.inr (some (12, 0)))]) (C12_given hq) md_X12_given im_X12_given se_X12_given ml_X12_471 dX12_speaks_139 _ (by decide) (K := ?_)
    obtain ⟨h5, hq, H7⟩ := bd_e H6
    clear H6
    refine ev_callV (M := T12_speaks) (pc := 142) (mc := 0) (ms := 0) (st := []) (C12_gets hq) md_X12_gets im_X12_gets se_X12_gets ml_X12_477 dX12_speaks_142 _ (by decide) (K := ?_)
    refine ev_lv [0, 1] [(0, .inr (.inr (some (12, 0)))), (1, .inl (l1))] (k := ?_)
    exact E12_speaks_145 k48 hk48 l1 h5 _ H7
set_option maxRecDepth 100000 in
set_option maxHeartbeats 4000000 in
theorem E12_speaks_84 (k48 : Int → JM → Option JM) (hk48 : ∀ (l1 : Int) (h : JM) (res : JM), k48 l1 h = some res → Ev j_W1 6 0 0 T12_speaks 48 [(0, .inr (.inr (some (12, 0)))), (1, .inl (l1))] [] h none res) (l1 : Int) (s0 : Int) (h : JM) (res : JM) (H : F12_speaks_84 k48 l1 s0 h = some res) : Ev j_W1 6 0 0 T12_speaks 84 [(0, .inr (.inr (some (12, 0)))), (1, .inl (l1))] [.inl (s0)] h none res := by
  unfold F12_speaks_84 at H
  refine ev_istore_n (M := T12_speaks) (pc := 84) [(2, .inl (s0)), (0, .inr (.inr (some (12, 0)))), (1, .inl (l1))] dX12_speaks_84 (k := ?_)
  refine ev_aload_n (M := T12_speaks) (pc := 85) 1 dX12_speaks_85 (k := ?_)
  refine ev_iload_n (M := T12_speaks) (pc := 86) 2 dX12_speaks_86 (k := ?_)
  refine ev_aload_n (M := T12_speaks) (pc := 87) 1 dX12_speaks_87 (k := ?_)
  refine ev_getR (M := T12_speaks) (pc := 88) (t := 136) (x := some (136, 0)) fl_X12_104 dX12_speaks_88 (hx := ry_12_36 _ _) (K := ?_)
  refine ev_iload_n (M := T12_speaks) (pc := 91) 2 dX12_speaks_91 (k := ?_)
  obtain ⟨⟨hi0, hi1⟩, H1⟩ := g_e H
  clear H
  refine ev_iaload (M := T12_speaks) (pc := 92) (k := 136) hi0 hi1 dX12_speaks_92 (hc := ac_136) (hlen := ln_136 _ _) (K := ?_)
  refine ev_iload_n (M := T12_speaks) (pc := 93) 0 dX12_speaks_93 (k := ?_)
  refine ev_ifeq (M := T12_speaks) (pc := 94) 105 dX12_speaks_94 (kt := fun hc => ?_) (kf := fun hc => ?_)
  · replace H1 := if_pe hc H1
    refine ev_aload_n (M := T12_speaks) (pc := 105) 1 dX12_speaks_105 (k := ?_)
    refine ev_iload_n (M := T12_speaks) (pc := 106) 2 dX12_speaks_106 (k := ?_)
    refine ev_aload_n (M := T12_speaks) (pc := 107) 1 dX12_speaks_107 (k := ?_)
    refine ev_getR (M := T12_speaks) (pc := 108) (t := 137) (x := some (137, 0)) fl_X12_107 dX12_speaks_108 (hx := ry_12_37 _ _) (K := ?_)
    refine ev_iload_n (M := T12_speaks) (pc := 111) 2 dX12_speaks_111 (k := ?_)
    obtain ⟨⟨hi0, hi1⟩, H2⟩ := g_e H1
    clear H1
    refine ev_iaload (M := T12_speaks) (pc := 112) (k := 137) hi0 hi1 dX12_speaks_112 (hc := ac_137) (hlen := ln_137 _ _) (K := ?_)
    obtain ⟨q6, hq, H3⟩ := bd_e H2
    clear H2
    refine ev_callV (M := T12_speaks) (pc := 113) (mc := 0) (ms := 0) (st := [.inl (h.1 136 0 l1), .inl (l1), .inr (.inr (some (12, 0)))]) (C12_given hq) md_X12_given im_X12_given se_X12_given ml_X12_471 dX12_speaks_113 _ (by decide) (K := ?_)
    refine ev_lv [1, 2, 0] [(0, .inr (.inr (some (12, 0)))), (1, .inl (l1)), (2, .inl (s0))] (k := ?_)
    exact E12_speaks_116 k48 hk48 l1 s0 (some 0) l1 (h.1 136 0 l1) q6.1 q6.2 _ H3
  · replace H1 := if_ne hc H1
    refine ev_aload_n (M := T12_speaks) (pc := 97) 1 dX12_speaks_97 (k := ?_)
    refine ev_iload_n (M := T12_speaks) (pc := 98) 2 dX12_speaks_98 (k := ?_)
    obtain ⟨q7, hq, H2⟩ := bd_e H1
    clear H1
    refine ev_callV (M := T12_speaks) (pc := 99) (mc := 0) (ms := 0) (st := [.inl (h.1 136 0 l1), .inl (l1), .inr (.inr (some (12, 0)))]) (C12_inRoomOthers hq) md_X12_inRoomOthers im_X12_inRoomOthers se_X12_inRoomOthers ml_X12_474 dX12_speaks_99 _ (by decide) (K := ?_)
    refine ev_goto (M := T12_speaks) (pc := 102) 116 dX12_speaks_102 (k := ?_)
    refine ev_lv [1, 2, 0] [(0, .inr (.inr (some (12, 0)))), (1, .inl (l1)), (2, .inl (s0))] (k := ?_)
    exact E12_speaks_116 k48 hk48 l1 s0 (some 0) l1 (h.1 136 0 l1) q7.1 q7.2 _ H2
set_option maxRecDepth 100000 in
set_option maxHeartbeats 4000000 in
theorem E12_speaks_48b (k48 : Int → JM → Option JM) (hk48 : ∀ (l1 : Int) (h : JM) (res : JM), k48 l1 h = some res → Ev j_W1 6 0 0 T12_speaks 48 [(0, .inr (.inr (some (12, 0)))), (1, .inl (l1))] [] h none res) (l1 : Int) (h : JM) (res : JM) (H : F12_speaks_48b k48 l1 h = some res) : Ev j_W1 6 0 0 T12_speaks 48 [(0, .inr (.inr (some (12, 0)))), (1, .inl (l1))] [] h none res := by
  unfold F12_speaks_48b at H
  refine ev_iload_n (M := T12_speaks) (pc := 48) 1 dX12_speaks_48 (k := ?_)
  refine ev_bipush (M := T12_speaks) (pc := 49) dX12_speaks_49 (k := ?_)
  refine ev_icmpge (M := T12_speaks) (pc := 51) 151 dX12_speaks_51 (kt := fun hc => ?_) (kf := fun hc => ?_)
  · replace H := if_pe hc H
    refine ev_iconst (M := T12_speaks) (pc := 151) dX12_speaks_151 (k := ?_)
    refine ev_istore_n (M := T12_speaks) (pc := 152) [(1, .inl (0)), (0, .inr (.inr (some (12, 0))))] dX12_speaks_152 (k := ?_)
    refine ev_lv [1, 0] [(0, .inr (.inr (some (12, 0)))), (1, .inl (0))] (k := ?_)
    exact E12_speaks_153 j_fu 0 h _ H
  · replace H := if_ne hc H
    refine ev_aload_n (M := T12_speaks) (pc := 54) 0 dX12_speaks_54 (k := ?_)
    refine ev_getR (M := T12_speaks) (pc := 55) (t := 133) (x := some (133, 0)) fl_X12_95 dX12_speaks_55 (hx := ry_12_33 _ _) (K := ?_)
    refine ev_iload_n (M := T12_speaks) (pc := 58) 1 dX12_speaks_58 (k := ?_)
    obtain ⟨⟨hi0, hi1⟩, H1⟩ := g_e H
    clear H
    refine ev_iaload (M := T12_speaks) (pc := 59) (k := 133) hi0 hi1 dX12_speaks_59 (hc := ac_133) (hlen := ln_133 _ _) (K := ?_)
    refine ev_iconst (M := T12_speaks) (pc := 60) dX12_speaks_60 (k := ?_)
    refine ev_icmpeq (M := T12_speaks) (pc := 61) 67 dX12_speaks_61 (kt := fun hc => ?_) (kf := fun hc => ?_)
    · replace H1 := if_pe hc H1
      refine ev_aload_n (M := T12_speaks) (pc := 67) 0 dX12_speaks_67 (k := ?_)
      refine ev_getR (M := T12_speaks) (pc := 68) (t := 137) (x := some (137, 0)) fl_X12_107 dX12_speaks_68 (hx := ry_12_37 _ _) (K := ?_)
      refine ev_iload_n (M := T12_speaks) (pc := 71) 1 dX12_speaks_71 (k := ?_)
      obtain ⟨⟨hi0, hi1⟩, H2⟩ := g_e H1
      clear H1
      refine ev_iaload (M := T12_speaks) (pc := 72) (k := 137) hi0 hi1 dX12_speaks_72 (hc := ac_137) (hlen := ln_137 _ _) (K := ?_)
      refine ev_sipush (M := T12_speaks) (pc := 73) dX12_speaks_73 (k := ?_)
      refine ev_icmplt (M := T12_speaks) (pc := 76) 83 dX12_speaks_76 (kt := fun hc => ?_) (kf := fun hc => ?_)
      · replace H2 := if_pe hc H2
        refine ev_iconst (M := T12_speaks) (pc := 83) dX12_speaks_83 (k := ?_)
        exact E12_speaks_84 k48 hk48 l1 0 h _ H2
      · replace H2 := if_ne hc H2
        refine ev_iconst (M := T12_speaks) (pc := 79) dX12_speaks_79 (k := ?_)
        refine ev_goto (M := T12_speaks) (pc := 80) 84 dX12_speaks_80 (k := ?_)
        exact E12_speaks_84 k48 hk48 l1 1 h _ H2
    · replace H1 := if_ne hc H1
      refine ev_goto (M := T12_speaks) (pc := 64) 145 dX12_speaks_64 (k := ?_)
      exact E12_speaks_145 k48 hk48 l1 h _ H1
theorem E12_speaks_48 (n : Nat) : ∀ (l1 : Int) (h : JM) (res : JM), F12_speaks_48 n l1 h = some res → Ev j_W1 6 0 0 T12_speaks 48 [(0, .inr (.inr (some (12, 0)))), (1, .inl (l1))] [] h none res := by
  induction n with
  | zero =>
    intro l1 h res H
    cases H
  | succ n ih =>
    intro l1 h res H
    exact E12_speaks_48b (F12_speaks_48 n) ih l1 h res H
set_option maxRecDepth 100000 in
set_option maxHeartbeats 4000000 in
theorem E12_speaks_23b (k23 : Int → JM → Option JM) (hk23 : ∀ (l1 : Int) (h : JM) (res : JM), k23 l1 h = some res → Ev j_W1 6 0 0 T12_speaks 23 [(0, .inr (.inr (some (12, 0)))), (1, .inl (l1))] [] h none res) (l1 : Int) (h : JM) (res : JM) (H : F12_speaks_23b k23 l1 h = some res) : Ev j_W1 6 0 0 T12_speaks 23 [(0, .inr (.inr (some (12, 0)))), (1, .inl (l1))] [] h none res := by
  unfold F12_speaks_23b at H
  refine ev_iload_n (M := T12_speaks) (pc := 23) 1 dX12_speaks_23 (k := ?_)
  refine ev_bipush (M := T12_speaks) (pc := 24) dX12_speaks_24 (k := ?_)
  refine ev_icmpge (M := T12_speaks) (pc := 26) 46 dX12_speaks_26 (kt := fun hc => ?_) (kf := fun hc => ?_)
  · replace H := if_pe hc H
    refine ev_iconst (M := T12_speaks) (pc := 46) dX12_speaks_46 (k := ?_)
    refine ev_istore_n (M := T12_speaks) (pc := 47) [(1, .inl (0)), (0, .inr (.inr (some (12, 0))))] dX12_speaks_47 (k := ?_)
    refine ev_lv [1, 0] [(0, .inr (.inr (some (12, 0)))), (1, .inl (0))] (k := ?_)
    exact E12_speaks_48 j_fu 0 h _ H
  · replace H := if_ne hc H
    refine ev_aload_n (M := T12_speaks) (pc := 29) 0 dX12_speaks_29 (k := ?_)
    refine ev_getR (M := T12_speaks) (pc := 30) (t := 185) (x := some (185, 0)) fl_X12_237 dX12_speaks_30 (hx := ry_12_85 _ _) (K := ?_)
    refine ev_iload_n (M := T12_speaks) (pc := 33) 1 dX12_speaks_33 (k := ?_)
    refine ev_iconst (M := T12_speaks) (pc := 34) dX12_speaks_34 (k := ?_)
    refine ev_iconst (M := T12_speaks) (pc := 35) dX12_speaks_35 (k := ?_)
    obtain ⟨q8, hq, H1⟩ := bd_e H
    clear H
    refine ev_callS (M := T12_speaks) (pc := 36) (mc := 0) (ms := 0) (st := [.inl (l1), .inr (.inr (some (185, 0)))]) (C12_codeOf hq) md_X12_codeOf ss_X12_codeOf ml_X12_262 dX12_speaks_36 _ (by decide) (K := ?_)
    obtain ⟨⟨hi0, hi1⟩, H2⟩ := g_e H1
    clear H1
    obtain ⟨h9, eh9, H3⟩ := lt_e H2
    clear H2
    refine ev_iastore (M := T12_speaks) (pc := 39) (k := 185) j_ok1 hi0 hi1 eh9 dX12_speaks_39 (hc := ac_185) (hlen := ln_185 _ _) (K := ?_)
    refine ev_iinc (M := T12_speaks) (pc := 40) 1 [(1, .inl (w32 (l1 + 1))), (0, .inr (.inr (some (12, 0))))] dX12_speaks_40 (k := ?_)
    refine ev_goto (M := T12_speaks) (pc := 43) 23 dX12_speaks_43 (k := ?_)
    refine ev_lv [1, 0] [(0, .inr (.inr (some (12, 0)))), (1, .inl (w32 (l1 + 1)))] (k := ?_)
    exact hk23 (w32 (l1 + 1)) h9 _ H3
theorem E12_speaks_23 (n : Nat) : ∀ (l1 : Int) (h : JM) (res : JM), F12_speaks_23 n l1 h = some res → Ev j_W1 6 0 0 T12_speaks 23 [(0, .inr (.inr (some (12, 0)))), (1, .inl (l1))] [] h none res := by
  induction n with
  | zero =>
    intro l1 h res H
    cases H
  | succ n ih =>
    intro l1 h res H
    exact E12_speaks_23b (F12_speaks_23 n) ih l1 h res H
set_option maxRecDepth 100000 in
set_option maxHeartbeats 4000000 in
theorem E12_speaks_2b (k2 : Int → JM → Option JM) (hk2 : ∀ (l1 : Int) (h : JM) (res : JM), k2 l1 h = some res → Ev j_W1 6 0 0 T12_speaks 2 [(0, .inr (.inr (some (12, 0)))), (1, .inl (l1))] [] h none res) (l1 : Int) (h : JM) (res : JM) (H : F12_speaks_2b k2 l1 h = some res) : Ev j_W1 6 0 0 T12_speaks 2 [(0, .inr (.inr (some (12, 0)))), (1, .inl (l1))] [] h none res := by
  unfold F12_speaks_2b at H
  refine ev_iload_n (M := T12_speaks) (pc := 2) 1 dX12_speaks_2 (k := ?_)
  refine ev_bipush (M := T12_speaks) (pc := 3) dX12_speaks_3 (k := ?_)
  refine ev_icmpge (M := T12_speaks) (pc := 5) 21 dX12_speaks_5 (kt := fun hc => ?_) (kf := fun hc => ?_)
  · replace H := if_pe hc H
    refine ev_iconst (M := T12_speaks) (pc := 21) dX12_speaks_21 (k := ?_)
    refine ev_istore_n (M := T12_speaks) (pc := 22) [(1, .inl (0)), (0, .inr (.inr (some (12, 0))))] dX12_speaks_22 (k := ?_)
    refine ev_lv [1, 0] [(0, .inr (.inr (some (12, 0)))), (1, .inl (0))] (k := ?_)
    exact E12_speaks_23 j_fu 0 h _ H
  · replace H := if_ne hc H
    refine ev_aload_n (M := T12_speaks) (pc := 8) 0 dX12_speaks_8 (k := ?_)
    refine ev_getR (M := T12_speaks) (pc := 9) (t := 131) (x := some (131, 0)) fl_X12_92 dX12_speaks_9 (hx := ry_12_31 _ _) (K := ?_)
    refine ev_iload_n (M := T12_speaks) (pc := 12) 1 dX12_speaks_12 (k := ?_)
    refine ev_iconst (M := T12_speaks) (pc := 13) dX12_speaks_13 (k := ?_)
    obtain ⟨⟨hi0, hi1⟩, H1⟩ := g_e H
    clear H
    obtain ⟨h10, eh10, H2⟩ := lt_e H1
    clear H1
    refine ev_iastore (M := T12_speaks) (pc := 14) (k := 131) j_ok1 hi0 hi1 eh10 dX12_speaks_14 (hc := ac_131) (hlen := ln_131 _ _) (K := ?_)
    refine ev_iinc (M := T12_speaks) (pc := 15) 1 [(1, .inl (w32 (l1 + 1))), (0, .inr (.inr (some (12, 0))))] dX12_speaks_15 (k := ?_)
    refine ev_goto (M := T12_speaks) (pc := 18) 2 dX12_speaks_18 (k := ?_)
    refine ev_lv [1, 0] [(0, .inr (.inr (some (12, 0)))), (1, .inl (w32 (l1 + 1)))] (k := ?_)
    exact hk2 (w32 (l1 + 1)) h10 _ H2
theorem E12_speaks_2 (n : Nat) : ∀ (l1 : Int) (h : JM) (res : JM), F12_speaks_2 n l1 h = some res → Ev j_W1 6 0 0 T12_speaks 2 [(0, .inr (.inr (some (12, 0)))), (1, .inl (l1))] [] h none res := by
  induction n with
  | zero =>
    intro l1 h res H
    cases H
  | succ n ih =>
    intro l1 h res H
    exact E12_speaks_2b (F12_speaks_2 n) ih l1 h res H
set_option maxRecDepth 100000 in
set_option maxHeartbeats 4000000 in
theorem C12_speaks {h : JM} {res : JM} (H : F12_speaks h = some res) : Cn j_W1 6 0 0 yX12_speaks cX12_speaks 3 none [.inr (.inr (some (12, 0)))] h none res := by
  refine Cn.by (own := RX12) (b := false) [(0, .inr (.inr (some (12, 0))))] rfl (fun z => by cases z) (by decide +kernel) (K := ?_)
  unfold F12_speaks at H
  refine ev_iconst (M := T12_speaks) (pc := 0) dX12_speaks_0 (k := ?_)
  refine ev_istore_n (M := T12_speaks) (pc := 1) [(1, .inl (0)), (0, .inr (.inr (some (12, 0))))] dX12_speaks_1 (k := ?_)
  refine ev_lv [1, 0] [(0, .inr (.inr (some (12, 0)))), (1, .inl (0))] (k := ?_)
  exact E12_speaks_2 j_fu 0 h _ H
-- X12_speech
abbrev T12_speech : JT := (RX12, cX12_speech, 3, some .int, false)
set_option maxRecDepth 100000 in
set_option maxHeartbeats 4000000 in
theorem E12_speech_40 (h : JM) (res : (Int × JM)) (H : F12_speech_40 h = some res) : Ev j_W1 2 0 0 T12_speech 40 [] [] h (some (.inl res.1)) res.2 := by
  unfold F12_speech_40 at H
  refine ev_bipush (M := T12_speech) (pc := 40) dX12_speech_40 (k := ?_)
  cases H
  exact ev_ireturn (M := T12_speech) (pc := 42) dX12_speech_42
set_option maxRecDepth 100000 in
set_option maxHeartbeats 4000000 in
theorem C12_speech {l1 : Int} {l2 : Int} {h : JM} {res : (Int × JM)} (H : F12_speech l1 l2 h = some res) : Cn j_W1 2 0 0 yX12_speech cX12_speech 3 (some .int) [.inr (.inr (some (12, 0))), .inl (l1), .inl (l2)] h (some (.inl res.1)) res.2 := by
  refine Cn.by (own := RX12) (b := false) [(0, .inr (.inr (some (12, 0)))), (1, .inl (l1)), (2, .inl (l2))] rfl (fun z => by cases z) (by decide +kernel) (K := ?_)
  unfold F12_speech at H
  refine ev_iload_n (M := T12_speech) (pc := 0) 1 dX12_speech_0 (k := ?_)
  refine ev_i2l (M := T12_speech) (pc := 1) dX12_speech_1 (k := ?_)
  refine ev_lconst (M := T12_speech) (pc := 2) (v := 0) dX12_speech_2 (k := ?_)
  refine ev_lconst (M := T12_speech) (pc := 3) (v := 1) dX12_speech_3 (k := ?_)
  obtain ⟨q1, hq, H1⟩ := bd_e H
  clear H
  refine ev_callS (M := T12_speech) (pc := 4) (mc := 0) (ms := 0) (st := []) (C12_in hq) md_X12_in ss_X12_in ml_X12_268 dX12_speech_4 _ (by decide) (K := ?_)
  refine ev_ifeq (M := T12_speech) (pc := 7) 40 dX12_speech_7 (kt := fun hc => ?_) (kf := fun hc => ?_)
  · replace H1 := if_pe hc H1
    refine ev_lv [] [] (k := ?_)
    exact E12_speech_40 q1.2 _ H1
  · replace H1 := if_ne hc H1
    refine ev_iload_n (M := T12_speech) (pc := 10) 2 dX12_speech_10 (k := ?_)
    refine ev_i2l (M := T12_speech) (pc := 11) dX12_speech_11 (k := ?_)
    refine ev_lconst (M := T12_speech) (pc := 12) (v := 0) dX12_speech_12 (k := ?_)
    refine ev_aload_n (M := T12_speech) (pc := 13) 0 dX12_speech_13 (k := ?_)
    refine ev_getI (M := T12_speech) (pc := 14) (x := q1.2.1 12 0 0) fl_X12_255 dX12_speech_14 (K := ?_)
    refine ev_iconst (M := T12_speech) (pc := 17) dX12_speech_17 (k := ?_)
    refine ev_isub (M := T12_speech) (pc := 18) dX12_speech_18 (k := ?_)
    refine ev_i2l (M := T12_speech) (pc := 19) dX12_speech_19 (k := ?_)
    obtain ⟨q2, hq, H2⟩ := bd_e H1
    clear H1
    refine ev_callS (M := T12_speech) (pc := 20) (mc := 0) (ms := 0) (st := []) (C12_in hq) md_X12_in ss_X12_in ml_X12_268 dX12_speech_20 _ (by decide) (K := ?_)
    refine ev_ifeq (M := T12_speech) (pc := 23) 40 dX12_speech_23 (kt := fun hc => ?_) (kf := fun hc => ?_)
    · replace H2 := if_pe hc H2
      refine ev_lv [] [] (k := ?_)
      exact E12_speech_40 q2.2 _ H2
    · replace H2 := if_ne hc H2
      refine ev_aload_n (M := T12_speech) (pc := 26) 0 dX12_speech_26 (k := ?_)
      refine ev_getR (M := T12_speech) (pc := 27) (t := 184) (x := some (184, 0)) fl_X12_234 dX12_speech_27 (hx := ry_12_84 _ _) (K := ?_)
      refine ev_bipush (M := T12_speech) (pc := 30) dX12_speech_30 (k := ?_)
      refine ev_iload_n (M := T12_speech) (pc := 32) 1 dX12_speech_32 (k := ?_)
      refine ev_imul (M := T12_speech) (pc := 33) dX12_speech_33 (k := ?_)
      refine ev_iload_n (M := T12_speech) (pc := 34) 2 dX12_speech_34 (k := ?_)
      refine ev_iadd (M := T12_speech) (pc := 35) dX12_speech_35 (k := ?_)
      obtain ⟨⟨hi0, hi1⟩, H3⟩ := g_e H2
      clear H2
      refine ev_iaload (M := T12_speech) (pc := 36) (k := 184) hi0 hi1 dX12_speech_36 (hc := ac_184) (hlen := ln_184 _ _) (K := ?_)
      refine ev_goto (M := T12_speech) (pc := 37) 42 dX12_speech_37 (k := ?_)
      cases H3
      exact ev_ireturn (M := T12_speech) (pc := 42) dX12_speech_42
-- X12_spoil
abbrev T12_spoil : JT := (RX12, cX12_spoil, 6, some .int, false)
set_option maxRecDepth 100000 in
set_option maxHeartbeats 4000000 in
theorem E12_spoil_124 (k53 : Int → Int → Int → Int → Int → JM → Option (Int × JM)) (hk53 : ∀ (l1 : Int) (l2 : Int) (l3 : Int) (l4 : Int) (l5 : Int) (h : JM) (res : (Int × JM)), k53 l1 l2 l3 l4 l5 h = some res → Ev j_W1 2 0 0 T12_spoil 53 [(0, .inr (.inr (some (12, 0)))), (1, .inl (l1)), (2, .inl (l2)), (3, .inl (l3)), (4, .inl (l4)), (5, .inl (l5))] [] h (some (.inl res.1)) res.2) (l1 : Int) (l2 : Int) (l3 : Int) (l4 : Int) (l5 : Int) (h : JM) (res : (Int × JM)) (H : F12_spoil_124 k53 l1 l2 l3 l4 l5 h = some res) : Ev j_W1 2 0 0 T12_spoil 124 [(0, .inr (.inr (some (12, 0)))), (1, .inl (l1)), (2, .inl (l2)), (3, .inl (l3)), (4, .inl (l4)), (5, .inl (l5))] [] h (some (.inl res.1)) res.2 := by
  unfold F12_spoil_124 at H
  refine ev_iinc (M := T12_spoil) (pc := 124) 5 [(5, .inl (w32 (l5 + 1))), (0, .inr (.inr (some (12, 0)))), (1, .inl (l1)), (2, .inl (l2)), (3, .inl (l3)), (4, .inl (l4))] dX12_spoil_124 (k := ?_)
  refine ev_goto (M := T12_spoil) (pc := 127) 53 dX12_spoil_127 (k := ?_)
  refine ev_lv [1, 2, 3, 4, 5, 0] [(0, .inr (.inr (some (12, 0)))), (1, .inl (l1)), (2, .inl (l2)), (3, .inl (l3)), (4, .inl (l4)), (5, .inl (w32 (l5 + 1)))] (k := ?_)
  exact hk53 l1 l2 l3 l4 (w32 (l5 + 1)) h _ H
set_option maxRecDepth 100000 in
set_option maxHeartbeats 4000000 in
theorem E12_spoil_53b (k53 : Int → Int → Int → Int → Int → JM → Option (Int × JM)) (hk53 : ∀ (l1 : Int) (l2 : Int) (l3 : Int) (l4 : Int) (l5 : Int) (h : JM) (res : (Int × JM)), k53 l1 l2 l3 l4 l5 h = some res → Ev j_W1 2 0 0 T12_spoil 53 [(0, .inr (.inr (some (12, 0)))), (1, .inl (l1)), (2, .inl (l2)), (3, .inl (l3)), (4, .inl (l4)), (5, .inl (l5))] [] h (some (.inl res.1)) res.2) (l1 : Int) (l2 : Int) (l3 : Int) (l4 : Int) (l5 : Int) (h : JM) (res : (Int × JM)) (H : F12_spoil_53b k53 l1 l2 l3 l4 l5 h = some res) : Ev j_W1 2 0 0 T12_spoil 53 [(0, .inr (.inr (some (12, 0)))), (1, .inl (l1)), (2, .inl (l2)), (3, .inl (l3)), (4, .inl (l4)), (5, .inl (l5))] [] h (some (.inl res.1)) res.2 := by
  unfold F12_spoil_53b at H
  refine ev_iload (M := T12_spoil) (pc := 53) 5 dX12_spoil_53 (k := ?_)
  refine ev_aload_n (M := T12_spoil) (pc := 55) 0 dX12_spoil_55 (k := ?_)
  refine ev_getI (M := T12_spoil) (pc := 56) (x := h.1 12 0 75) fl_X12_422 dX12_spoil_56 (K := ?_)
  refine ev_icmpge (M := T12_spoil) (pc := 59) 130 dX12_spoil_59 (kt := fun hc => ?_) (kf := fun hc => ?_)
  · replace H := if_pe hc H
    refine ev_aload_n (M := T12_spoil) (pc := 130) 0 dX12_spoil_130 (k := ?_)
    refine ev_iload (M := T12_spoil) (pc := 131) 4 dX12_spoil_131 (k := ?_)
    obtain ⟨h1, eh1, H1⟩ := lt_e H
    clear H
    refine ev_putI (M := T12_spoil) (pc := 133) j_ok1 fl_X12_422 eh1 dX12_spoil_133 (K := ?_)
    refine ev_aload_n (M := T12_spoil) (pc := 136) 0 dX12_spoil_136 (k := ?_)
    refine ev_getI (M := T12_spoil) (pc := 137) (x := h1.1 12 0 75) fl_X12_422 dX12_spoil_137 (K := ?_)
    refine ev_sipush (M := T12_spoil) (pc := 140) dX12_spoil_140 (k := ?_)
    refine ev_icmpne (M := T12_spoil) (pc := 143) 149 dX12_spoil_143 (kt := fun hc => ?_) (kf := fun hc => ?_)
    · replace H1 := if_ne hc H1
      refine ev_aload_n (M := T12_spoil) (pc := 149) 0 dX12_spoil_149 (k := ?_)
      refine ev_getR (M := T12_spoil) (pc := 150) (t := 176) (x := some (176, 0)) fl_X12_216 dX12_spoil_150 (hx := ry_12_76 _ _) (K := ?_)
      refine ev_aload_n (M := T12_spoil) (pc := 153) 0 dX12_spoil_153 (k := ?_)
      refine ev_getI (M := T12_spoil) (pc := 154) (x := h1.1 12 0 75) fl_X12_422 dX12_spoil_154 (K := ?_)
      refine ev_iload_n (M := T12_spoil) (pc := 157) 1 dX12_spoil_157 (k := ?_)
      obtain ⟨⟨hi0, hi1⟩, H2⟩ := g_e H1
      clear H1
      obtain ⟨h2, eh2, H3⟩ := lt_e H2
      clear H2
      refine ev_iastore (M := T12_spoil) (pc := 158) (k := 176) j_ok1 hi0 hi1 eh2 dX12_spoil_158 (hc := ac_176) (hlen := ln_176 _ _) (K := ?_)
      refine ev_aload_n (M := T12_spoil) (pc := 159) 0 dX12_spoil_159 (k := ?_)
      refine ev_getR (M := T12_spoil) (pc := 160) (t := 177) (x := some (177, 0)) fl_X12_219 dX12_spoil_160 (hx := ry_12_77 _ _) (K := ?_)
      refine ev_aload_n (M := T12_spoil) (pc := 163) 0 dX12_spoil_163 (k := ?_)
      refine ev_getI (M := T12_spoil) (pc := 164) (x := h2.1 12 0 75) fl_X12_422 dX12_spoil_164 (K := ?_)
      refine ev_iload_n (M := T12_spoil) (pc := 167) 2 dX12_spoil_167 (k := ?_)
      obtain ⟨⟨hi0, hi1⟩, H4⟩ := g_e H3
      clear H3
      obtain ⟨h3, eh3, H5⟩ := lt_e H4
      clear H4
      refine ev_iastore (M := T12_spoil) (pc := 168) (k := 177) j_ok1 hi0 hi1 eh3 dX12_spoil_168 (hc := ac_177) (hlen := ln_177 _ _) (K := ?_)
      refine ev_aload_n (M := T12_spoil) (pc := 169) 0 dX12_spoil_169 (k := ?_)
      refine ev_getR (M := T12_spoil) (pc := 170) (t := 178) (x := some (178, 0)) fl_X12_222 dX12_spoil_170 (hx := ry_12_78 _ _) (K := ?_)
      refine ev_aload_n (M := T12_spoil) (pc := 173) 0 dX12_spoil_173 (k := ?_)
      refine ev_dup (M := T12_spoil) (pc := 174) dX12_spoil_174 (k := ?_)
      refine ev_getI (M := T12_spoil) (pc := 175) (x := h3.1 12 0 75) fl_X12_422 dX12_spoil_175 (K := ?_)
      refine ev_dup_x1 (M := T12_spoil) (pc := 178) dX12_spoil_178 (k := ?_)
      refine ev_iconst (M := T12_spoil) (pc := 179) dX12_spoil_179 (k := ?_)
      refine ev_iadd (M := T12_spoil) (pc := 180) dX12_spoil_180 (k := ?_)
      obtain ⟨h4, eh4, H6⟩ := lt_e H5
      clear H5
      refine ev_putI (M := T12_spoil) (pc := 181) j_ok1 fl_X12_422 eh4 dX12_spoil_181 (K := ?_)
      refine ev_iload_n (M := T12_spoil) (pc := 184) 3 dX12_spoil_184 (k := ?_)
      obtain ⟨⟨hi0, hi1⟩, H7⟩ := g_e H6
      clear H6
      obtain ⟨h5, eh5, H8⟩ := lt_e H7
      clear H7
      refine ev_iastore (M := T12_spoil) (pc := 185) (k := 178) j_ok1 hi0 hi1 eh5 dX12_spoil_185 (hc := ac_178) (hlen := ln_178 _ _) (K := ?_)
      refine ev_aload_n (M := T12_spoil) (pc := 186) 0 dX12_spoil_186 (k := ?_)
      refine ev_getI (M := T12_spoil) (pc := 187) (x := h5.1 12 0 75) fl_X12_422 dX12_spoil_187 (K := ?_)
      cases H8
      exact ev_ireturn (M := T12_spoil) (pc := 190) dX12_spoil_190
    · replace H1 := if_pe hc H1
      refine ev_bipush (M := T12_spoil) (pc := 146) dX12_spoil_146 (k := ?_)
      cases H1
      exact ev_ireturn (M := T12_spoil) (pc := 148) dX12_spoil_148
  · replace H := if_ne hc H
    refine ev_aload_n (M := T12_spoil) (pc := 62) 0 dX12_spoil_62 (k := ?_)
    refine ev_getR (M := T12_spoil) (pc := 63) (t := 177) (x := some (177, 0)) fl_X12_219 dX12_spoil_63 (hx := ry_12_77 _ _) (K := ?_)
    refine ev_iload (M := T12_spoil) (pc := 66) 5 dX12_spoil_66 (k := ?_)
    obtain ⟨⟨hi0, hi1⟩, H1⟩ := g_e H
    clear H
    refine ev_iaload (M := T12_spoil) (pc := 68) (k := 177) hi0 hi1 dX12_spoil_68 (hc := ac_177) (hlen := ln_177 _ _) (K := ?_)
    refine ev_aload_n (M := T12_spoil) (pc := 69) 0 dX12_spoil_69 (k := ?_)
    refine ev_getI (M := T12_spoil) (pc := 70) (x := h.1 12 0 2) fl_X12_285 dX12_spoil_70 (K := ?_)
    refine ev_icmpge (M := T12_spoil) (pc := 73) 79 dX12_spoil_73 (kt := fun hc => ?_) (kf := fun hc => ?_)
    · replace H1 := if_pe hc H1
      refine ev_aload_n (M := T12_spoil) (pc := 79) 0 dX12_spoil_79 (k := ?_)
      refine ev_getR (M := T12_spoil) (pc := 80) (t := 176) (x := some (176, 0)) fl_X12_216 dX12_spoil_80 (hx := ry_12_76 _ _) (K := ?_)
      refine ev_iload (M := T12_spoil) (pc := 83) 4 dX12_spoil_83 (k := ?_)
      refine ev_aload_n (M := T12_spoil) (pc := 85) 0 dX12_spoil_85 (k := ?_)
      refine ev_getR (M := T12_spoil) (pc := 86) (t := 176) (x := some (176, 0)) fl_X12_216 dX12_spoil_86 (hx := ry_12_76 _ _) (K := ?_)
      refine ev_iload (M := T12_spoil) (pc := 89) 5 dX12_spoil_89 (k := ?_)
      obtain ⟨⟨hi0, hi1⟩, H2⟩ := g_e H1
      clear H1
      refine ev_iaload (M := T12_spoil) (pc := 91) (k := 176) hi0 hi1 dX12_spoil_91 (hc := ac_176) (hlen := ln_176 _ _) (K := ?_)
      obtain ⟨⟨hi0, hi1⟩, H3⟩ := g_e H2
      clear H2
      obtain ⟨h6, eh6, H4⟩ := lt_e H3
      clear H3
      refine ev_iastore (M := T12_spoil) (pc := 92) (k := 176) j_ok1 hi0 hi1 eh6 dX12_spoil_92 (hc := ac_176) (hlen := ln_176 _ _) (K := ?_)
      refine ev_aload_n (M := T12_spoil) (pc := 93) 0 dX12_spoil_93 (k := ?_)
      refine ev_getR (M := T12_spoil) (pc := 94) (t := 177) (x := some (177, 0)) fl_X12_219 dX12_spoil_94 (hx := ry_12_77 _ _) (K := ?_)
      refine ev_iload (M := T12_spoil) (pc := 97) 4 dX12_spoil_97 (k := ?_)
      refine ev_aload_n (M := T12_spoil) (pc := 99) 0 dX12_spoil_99 (k := ?_)
      refine ev_getR (M := T12_spoil) (pc := 100) (t := 177) (x := some (177, 0)) fl_X12_219 dX12_spoil_100 (hx := ry_12_77 _ _) (K := ?_)
      refine ev_iload (M := T12_spoil) (pc := 103) 5 dX12_spoil_103 (k := ?_)
      obtain ⟨⟨hi0, hi1⟩, H5⟩ := g_e H4
      clear H4
      refine ev_iaload (M := T12_spoil) (pc := 105) (k := 177) hi0 hi1 dX12_spoil_105 (hc := ac_177) (hlen := ln_177 _ _) (K := ?_)
      obtain ⟨⟨hi0, hi1⟩, H6⟩ := g_e H5
      clear H5
      obtain ⟨h7, eh7, H7⟩ := lt_e H6
      clear H6
      refine ev_iastore (M := T12_spoil) (pc := 106) (k := 177) j_ok1 hi0 hi1 eh7 dX12_spoil_106 (hc := ac_177) (hlen := ln_177 _ _) (K := ?_)
      refine ev_aload_n (M := T12_spoil) (pc := 107) 0 dX12_spoil_107 (k := ?_)
      refine ev_getR (M := T12_spoil) (pc := 108) (t := 178) (x := some (178, 0)) fl_X12_222 dX12_spoil_108 (hx := ry_12_78 _ _) (K := ?_)
      refine ev_iload (M := T12_spoil) (pc := 111) 4 dX12_spoil_111 (k := ?_)
      refine ev_iinc (M := T12_spoil) (pc := 113) 4 [(4, .inl (w32 (l4 + 1))), (0, .inr (.inr (some (12, 0)))), (1, .inl (l1)), (2, .inl (l2)), (3, .inl (l3)), (5, .inl (l5))] dX12_spoil_113 (k := ?_)
      refine ev_aload_n (M := T12_spoil) (pc := 116) 1 dX12_spoil_116 (k := ?_)
      refine ev_getR (M := T12_spoil) (pc := 117) (t := 178) (x := some (178, 0)) fl_X12_222 dX12_spoil_117 (hx := ry_12_78 _ _) (K := ?_)
      refine ev_iload (M := T12_spoil) (pc := 120) 5 dX12_spoil_120 (k := ?_)
      obtain ⟨⟨hi0, hi1⟩, H8⟩ := g_e H7
      clear H7
      refine ev_iaload (M := T12_spoil) (pc := 122) (k := 178) hi0 hi1 dX12_spoil_122 (hc := ac_178) (hlen := ln_178 _ _) (K := ?_)
      obtain ⟨⟨hi0, hi1⟩, H9⟩ := g_e H8
      clear H8
      obtain ⟨h8, eh8, H10⟩ := lt_e H9
      clear H9
      refine ev_iastore (M := T12_spoil) (pc := 123) (k := 178) j_ok1 hi0 hi1 eh8 dX12_spoil_123 (hc := ac_178) (hlen := ln_178 _ _) (K := ?_)
      refine ev_lv [1, 2, 3, 4, 0, 5] [(0, .inr (.inr (some (12, 0)))), (1, .inl (l1)), (2, .inl (l2)), (3, .inl (l3)), (4, .inl (w32 (l4 + 1))), (5, .inl (l5))] (k := ?_)
      exact E12_spoil_124 k53 hk53 l1 l2 l3 (w32 (l4 + 1)) l5 h8 _ H10
    · replace H1 := if_ne hc H1
      refine ev_goto (M := T12_spoil) (pc := 76) 124 dX12_spoil_76 (k := ?_)
      exact E12_spoil_124 k53 hk53 l1 l2 l3 l4 l5 h _ H1
theorem E12_spoil_53 (n : Nat) : ∀ (l1 : Int) (l2 : Int) (l3 : Int) (l4 : Int) (l5 : Int) (h : JM) (res : (Int × JM)), F12_spoil_53 n l1 l2 l3 l4 l5 h = some res → Ev j_W1 2 0 0 T12_spoil 53 [(0, .inr (.inr (some (12, 0)))), (1, .inl (l1)), (2, .inl (l2)), (3, .inl (l3)), (4, .inl (l4)), (5, .inl (l5))] [] h (some (.inl res.1)) res.2 := by
  induction n with
  | zero =>
    intro l1 l2 l3 l4 l5 h res H
    cases H
  | succ n ih =>
    intro l1 l2 l3 l4 l5 h res H
    exact E12_spoil_53b (F12_spoil_53 n) ih l1 l2 l3 l4 l5 h res H
set_option maxRecDepth 100000 in
set_option maxHeartbeats 4000000 in
theorem E12_spoil_44 (h : JM) (res : (Int × JM)) (H : F12_spoil_44 h = some res) : Ev j_W1 2 0 0 T12_spoil 44 [] [] h (some (.inl res.1)) res.2 := by
  unfold F12_spoil_44 at H
  refine ev_bipush (M := T12_spoil) (pc := 44) dX12_spoil_44 (k := ?_)
  cases H
  exact ev_ireturn (M := T12_spoil) (pc := 46) dX12_spoil_46
set_option maxRecDepth 100000 in
set_option maxHeartbeats 4000000 in
theorem C12_spoil {l1 : Int} {l2 : Int} {l3 : Int} {h : JM} {res : (Int × JM)} (H : F12_spoil l1 l2 l3 h = some res) : Cn j_W1 2 0 0 yX12_spoil cX12_spoil 6 (some .int) [.inr (.inr (some (12, 0))), .inl (l1), .inl (l2), .inl (l3)] h (some (.inl res.1)) res.2 := by
  refine Cn.by (own := RX12) (b := false) [(0, .inr (.inr (some (12, 0)))), (1, .inl (l1)), (2, .inl (l2)), (3, .inl (l3))] rfl (fun z => by cases z) (by decide +kernel) (K := ?_)
  unfold F12_spoil at H
  refine ev_iload_n (M := T12_spoil) (pc := 0) 1 dX12_spoil_0 (k := ?_)
  refine ev_i2l (M := T12_spoil) (pc := 1) dX12_spoil_1 (k := ?_)
  refine ev_lconst (M := T12_spoil) (pc := 2) (v := 0) dX12_spoil_2 (k := ?_)
  refine ev_lconst (M := T12_spoil) (pc := 3) (v := 1) dX12_spoil_3 (k := ?_)
  obtain ⟨q9, hq, H1⟩ := bd_e H
  clear H
  refine ev_callS (M := T12_spoil) (pc := 4) (mc := 0) (ms := 0) (st := []) (C12_in hq) md_X12_in ss_X12_in ml_X12_268 dX12_spoil_4 _ (by decide) (K := ?_)
  refine ev_ifeq (M := T12_spoil) (pc := 7) 44 dX12_spoil_7 (kt := fun hc => ?_) (kf := fun hc => ?_)
  · replace H1 := if_pe hc H1
    refine ev_lv [] [] (k := ?_)
    exact E12_spoil_44 q9.2 _ H1
  · replace H1 := if_ne hc H1
    refine ev_iload_n (M := T12_spoil) (pc := 10) 2 dX12_spoil_10 (k := ?_)
    refine ev_i2l (M := T12_spoil) (pc := 11) dX12_spoil_11 (k := ?_)
    refine ev_aload_n (M := T12_spoil) (pc := 12) 0 dX12_spoil_12 (k := ?_)
    refine ev_getI (M := T12_spoil) (pc := 13) (x := q9.2.1 12 0 2) fl_X12_285 dX12_spoil_13 (K := ?_)
    refine ev_i2l (M := T12_spoil) (pc := 16) dX12_spoil_16 (k := ?_)
    refine ev_aload_n (M := T12_spoil) (pc := 17) 0 dX12_spoil_17 (k := ?_)
    refine ev_getI (M := T12_spoil) (pc := 18) (x := q9.2.1 12 0 2) fl_X12_285 dX12_spoil_18 (K := ?_)
    refine ev_i2l (M := T12_spoil) (pc := 21) dX12_spoil_21 (k := ?_)
    refine ev_ldc2 (M := T12_spoil) (pc := 22) (n := 100000) cl_X12_418 dX12_spoil_22 (hv := cw_X12_418) (k := ?_)
    refine ev_ladd (M := T12_spoil) (pc := 25) dX12_spoil_25 (k := ?_)
    obtain ⟨q10, hq, H2⟩ := bd_e H1
    clear H1
    refine ev_callS (M := T12_spoil) (pc := 26) (mc := 0) (ms := 0) (st := []) (C12_in hq) md_X12_in ss_X12_in ml_X12_268 dX12_spoil_26 _ (by decide) (K := ?_)
    refine ev_ifeq (M := T12_spoil) (pc := 29) 44 dX12_spoil_29 (kt := fun hc => ?_) (kf := fun hc => ?_)
    · replace H2 := if_pe hc H2
      refine ev_lv [] [] (k := ?_)
      exact E12_spoil_44 q10.2 _ H2
    · replace H2 := if_ne hc H2
      refine ev_iload_n (M := T12_spoil) (pc := 32) 3 dX12_spoil_32 (k := ?_)
      refine ev_i2l (M := T12_spoil) (pc := 33) dX12_spoil_33 (k := ?_)
      refine ev_lconst (M := T12_spoil) (pc := 34) (v := 0) dX12_spoil_34 (k := ?_)
      refine ev_ldc2 (M := T12_spoil) (pc := 35) (n := 255) cl_X12_420 dX12_spoil_35 (hv := cw_X12_420) (k := ?_)
      obtain ⟨q11, hq, H3⟩ := bd_e H2
      clear H2
      refine ev_callS (M := T12_spoil) (pc := 38) (mc := 0) (ms := 0) (st := []) (C12_in hq) md_X12_in ss_X12_in ml_X12_268 dX12_spoil_38 _ (by decide) (K := ?_)
      refine ev_ifne (M := T12_spoil) (pc := 41) 47 dX12_spoil_41 (kt := fun hc => ?_) (kf := fun hc => ?_)
      · replace H3 := if_ne hc H3
        refine ev_iconst (M := T12_spoil) (pc := 47) dX12_spoil_47 (k := ?_)
        refine ev_istore (M := T12_spoil) (pc := 48) [(4, .inl (0)), (0, .inr (.inr (some (12, 0)))), (1, .inl (l1)), (2, .inl (l2)), (3, .inl (l3))] dX12_spoil_48 (k := ?_)
        refine ev_iconst (M := T12_spoil) (pc := 50) dX12_spoil_50 (k := ?_)
        refine ev_istore (M := T12_spoil) (pc := 51) [(5, .inl (0)), (4, .inl (0)), (0, .inr (.inr (some (12, 0)))), (1, .inl (l1)), (2, .inl (l2)), (3, .inl (l3))] dX12_spoil_51 (k := ?_)
        refine ev_lv [2, 3, 4, 5, 1, 0] [(0, .inr (.inr (some (12, 0)))), (1, .inl (l1)), (2, .inl (l2)), (3, .inl (l3)), (4, .inl (0)), (5, .inl (0))] (k := ?_)
        exact E12_spoil_53 j_fu l1 l2 l3 0 0 q11.2 _ H3
      · replace H3 := if_pe hc H3
        refine ev_lv [] [] (k := ?_)
        exact E12_spoil_44 q11.2 _ H3
