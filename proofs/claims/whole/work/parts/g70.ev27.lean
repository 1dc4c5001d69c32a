-- X12_ringsLong
abbrev T12_ringsLong : JT := (RX12, cX12_ringsLong, 6, none, false)
set_option maxRecDepth 100000 in
set_option maxHeartbeats 4000000 in
theorem E12_ringsLong_221 (l1 : Int) (l2 : Int) (h : JM) (res : JM) (H : F12_ringsLong_221 l1 l2 h = some res) : Ev j_W1 91 0 0 T12_ringsLong 221 [(0, .inr (.inr (some (12, 0)))), (1, .inl (l1)), (2, .inl (l2))] [] h none res := by
  unfold F12_ringsLong_221 at H
  refine ev_iload_n (M := T12_ringsLong) (pc := 221) 2 dX12_ringsLong_221 (k := ?_)
  refine ev_sipush (M := T12_ringsLong) (pc := 222) dX12_ringsLong_222 (k := ?_)
  refine ev_icmpne (M := T12_ringsLong) (pc := 225) 235 dX12_ringsLong_225 (kt := fun hc => ?_) (kf := fun hc => ?_)
  · replace H := if_ne hc H
    cases H
    exact ev_return (M := T12_ringsLong) (pc := 235) dX12_ringsLong_235
  · replace H := if_pe hc H
    refine ev_aload_n (M := T12_ringsLong) (pc := 228) 0 dX12_ringsLong_228 (k := ?_)
    refine ev_iload_n (M := T12_ringsLong) (pc := 229) 1 dX12_ringsLong_229 (k := ?_)
    refine ev_iconst (M := T12_ringsLong) (pc := 230) dX12_ringsLong_230 (k := ?_)
    refine ev_iconst (M := T12_ringsLong) (pc := 231) dX12_ringsLong_231 (k := ?_)
    obtain ⟨h1, hq, H1⟩ := bd_e H
    clear H
    refine ev_callV (M := T12_ringsLong) (pc := 232) (mc := 0) (ms := 0) (st := []) (C12_over hq) md_X12_over im_X12_over se_X12_over ml_X12_323 dX12_ringsLong_232 _ (by decide) (K := ?_)
    cases H1
    exact ev_return (M := T12_ringsLong) (pc := 235) dX12_ringsLong_235
set_option maxRecDepth 100000 in
set_option maxHeartbeats 4000000 in
theorem E12_ringsLong_208 (l1 : Int) (l3 : Int) (h : JM) (res : JM) (H : F12_ringsLong_208 l1 l3 h = some res) : Ev j_W1 91 0 0 T12_ringsLong 208 [(0, .inr (.inr (some (12, 0)))), (1, .inl (l1)), (3, .inl (l3))] [] h none res := by
  unfold F12_ringsLong_208 at H
  refine ev_aload_n (M := T12_ringsLong) (pc := 208) 0 dX12_ringsLong_208 (k := ?_)
  refine ev_iload_n (M := T12_ringsLong) (pc := 209) 1 dX12_ringsLong_209 (k := ?_)
  refine ev_iconst (M := T12_ringsLong) (pc := 210) dX12_ringsLong_210 (k := ?_)
  refine ev_iload_n (M := T12_ringsLong) (pc := 211) 2 dX12_ringsLong_211 (k := ?_)
  refine ev_imul (M := T12_ringsLong) (pc := 212) dX12_ringsLong_212 (k := ?_)
  refine ev_iconst (M := T12_ringsLong) (pc := 213) dX12_ringsLong_213 (k := ?_)
  refine ev_iadd (M := T12_ringsLong) (pc := 214) dX12_ringsLong_214 (k := ?_)
  obtain ⟨h2, hq, H1⟩ := bd_e H
  clear H
  refine ev_callV (M := T12_ringsLong) (pc := 215) (mc := 0) (ms := 0) (st := []) (C12_goesOn _ (40 + 6 * 8) (by decide) (fun c r h res q => C12_placesN 8 c r h res q) hq) md_X12_goesOn im_X12_goesOn se_X12_goesOn ml_X12_367 dX12_ringsLong_215 _ (by decide) (K := ?_)
  refine ev_goto (M := T12_ringsLong) (pc := 218) 235 dX12_ringsLong_218 (k := ?_)
  cases H1
  exact ev_return (M := T12_ringsLong) (pc := 235) dX12_ringsLong_235
set_option maxRecDepth 100000 in
set_option maxHeartbeats 4000000 in
theorem E12_ringsLong_191 (l1 : Int) (l3 : Int) (h : JM) (res : JM) (H : F12_ringsLong_191 l1 l3 h = some res) : Ev j_W1 91 0 0 T12_ringsLong 191 [(0, .inr (.inr (some (12, 0)))), (1, .inl (l1)), (3, .inl (l3))] [] h none res := by
  unfold F12_ringsLong_191 at H
  refine ev_aload_n (M := T12_ringsLong) (pc := 191) 0 dX12_ringsLong_191 (k := ?_)
  refine ev_getR (M := T12_ringsLong) (pc := 192) (t := 120) (x := some (120, 0)) fl_X12_59 dX12_ringsLong_192 (hx := ry_12_20 _ _) (K := ?_)
  refine ev_iload_n (M := T12_ringsLong) (pc := 195) 2 dX12_ringsLong_195 (k := ?_)
  obtain ⟨⟨hi0, hi1⟩, H1⟩ := g_e H
  clear H
  refine ev_iaload (M := T12_ringsLong) (pc := 196) (k := 120) hi0 hi1 dX12_ringsLong_196 (hc := ac_120) (hlen := ln_120 _ _) (K := ?_)
  refine ev_iload_n (M := T12_ringsLong) (pc := 197) 1 dX12_ringsLong_197 (k := ?_)
  refine ev_icmpne (M := T12_ringsLong) (pc := 198) 208 dX12_ringsLong_198 (kt := fun hc => ?_) (kf := fun hc => ?_)
  · replace H1 := if_ne hc H1
    exact E12_ringsLong_208 l1 l3 h _ H1
  · replace H1 := if_pe hc H1
    refine ev_aload_n (M := T12_ringsLong) (pc := 201) 0 dX12_ringsLong_201 (k := ?_)
    refine ev_getR (M := T12_ringsLong) (pc := 202) (t := 120) (x := some (120, 0)) fl_X12_59 dX12_ringsLong_202 (hx := ry_12_20 _ _) (K := ?_)
    refine ev_iload_n (M := T12_ringsLong) (pc := 205) 2 dX12_ringsLong_205 (k := ?_)
    refine ev_iconst (M := T12_ringsLong) (pc := 206) dX12_ringsLong_206 (k := ?_)
    obtain ⟨⟨hi0, hi1⟩, H2⟩ := g_e H1
    clear H1
    obtain ⟨h3, eh3, H3⟩ := lt_e H2
    clear H2
    refine ev_iastore (M := T12_ringsLong) (pc := 207) (k := 120) j_ok1 hi0 hi1 eh3 dX12_ringsLong_207 (hc := ac_120) (hlen := ln_120 _ _) (K := ?_)
    exact E12_ringsLong_208 l1 l3 h3 _ H3
set_option maxRecDepth 100000 in
set_option maxHeartbeats 4000000 in
theorem E12_ringsLong_63b (k63 : Int → Int → Int → JM → Option JM) (hk63 : ∀ (l1 : Int) (l4 : Int) (l5 : Int) (h : JM) (res : JM), k63 l1 l4 l5 h = some res → Ev j_W1 91 0 0 T12_ringsLong 63 [(0, .inr (.inr (some (12, 0)))), (1, .inl (l1)), (4, .inl (l4)), (5, .inl (l5))] [] h none res) (l1 : Int) (l4 : Int) (l5 : Int) (h : JM) (res : JM) (H : F12_ringsLong_63b k63 l1 l4 l5 h = some res) : Ev j_W1 91 0 0 T12_ringsLong 63 [(0, .inr (.inr (some (12, 0)))), (1, .inl (l1)), (4, .inl (l4)), (5, .inl (l5))] [] h none res := by
  unfold F12_ringsLong_63b at H
  refine ev_iload (M := T12_ringsLong) (pc := 63) 3 dX12_ringsLong_63 (k := ?_)
  refine ev_ifle (M := T12_ringsLong) (pc := 65) 102 dX12_ringsLong_65 (kt := fun hc => ?_) (kf := fun hc => ?_)
  · replace H := if_pe hc H
    refine ev_aload_n (M := T12_ringsLong) (pc := 102) 0 dX12_ringsLong_102 (k := ?_)
    refine ev_getR (M := T12_ringsLong) (pc := 103) (t := 152) (x := some (152, 0)) fl_X12_152 dX12_ringsLong_103 (hx := ry_12_52 _ _) (K := ?_)
    refine ev_bipush (M := T12_ringsLong) (pc := 106) dX12_ringsLong_106 (k := ?_)
    refine ev_iload (M := T12_ringsLong) (pc := 108) 2 dX12_ringsLong_108 (k := ?_)
    refine ev_imul (M := T12_ringsLong) (pc := 110) dX12_ringsLong_110 (k := ?_)
    refine ev_iload_n (M := T12_ringsLong) (pc := 111) 1 dX12_ringsLong_111 (k := ?_)
    obtain ⟨⟨hi0, hi1⟩, H1⟩ := g_e H
    clear H
    obtain ⟨h4, eh4, H2⟩ := lt_e H1
    clear H1
    refine ev_iastore (M := T12_ringsLong) (pc := 112) (k := 152) j_ok1 hi0 hi1 eh4 dX12_ringsLong_112 (hc := ac_152) (hlen := ln_152 _ _) (K := ?_)
    refine ev_aload_n (M := T12_ringsLong) (pc := 113) 0 dX12_ringsLong_113 (k := ?_)
    refine ev_getR (M := T12_ringsLong) (pc := 114) (t := 153) (x := some (153, 0)) fl_X12_155 dX12_ringsLong_114 (hx := ry_12_53 _ _) (K := ?_)
    refine ev_iload (M := T12_ringsLong) (pc := 117) 2 dX12_ringsLong_117 (k := ?_)
    refine ev_dup2 (M := T12_ringsLong) (pc := 119) dX12_ringsLong_119 (k := ?_)
    obtain ⟨⟨hi0, hi1⟩, H3⟩ := g_e H2
    clear H2
    refine ev_iaload (M := T12_ringsLong) (pc := 120) (k := 153) hi0 hi1 dX12_ringsLong_120 (hc := ac_153) (hlen := ln_153 _ _) (K := ?_)
    refine ev_iconst (M := T12_ringsLong) (pc := 121) dX12_ringsLong_121 (k := ?_)
    refine ev_iadd (M := T12_ringsLong) (pc := 122) dX12_ringsLong_122 (k := ?_)
    obtain ⟨⟨hi0, hi1⟩, H4⟩ := g_e H3
    clear H3
    obtain ⟨h5, eh5, H5⟩ := lt_e H4
    clear H4
    refine ev_iastore (M := T12_ringsLong) (pc := 123) (k := 153) j_ok1 hi0 hi1 eh5 dX12_ringsLong_123 (hc := ac_153) (hlen := ln_153 _ _) (K := ?_)
    refine ev_aload_n (M := T12_ringsLong) (pc := 124) 0 dX12_ringsLong_124 (k := ?_)
    refine ev_getR (M := T12_ringsLong) (pc := 125) (t := 137) (x := some (137, 0)) fl_X12_107 dX12_ringsLong_125 (hx := ry_12_37 _ _) (K := ?_)
    refine ev_iload_n (M := T12_ringsLong) (pc := 128) 1 dX12_ringsLong_128 (k := ?_)
    refine ev_sipush (M := T12_ringsLong) (pc := 129) dX12_ringsLong_129 (k := ?_)
    refine ev_aload_n (M := T12_ringsLong) (pc := 132) 0 dX12_ringsLong_132 (k := ?_)
    refine ev_getR (M := T12_ringsLong) (pc := 133) (t := 138) (x := some (138, 0)) fl_X12_110 dX12_ringsLong_133 (hx := ry_12_38 _ _) (K := ?_)
    refine ev_iload_n (M := T12_ringsLong) (pc := 136) 1 dX12_ringsLong_136 (k := ?_)
    obtain ⟨⟨hi0, hi1⟩, H6⟩ := g_e H5
    clear H5
    refine ev_iaload (M := T12_ringsLong) (pc := 137) (k := 138) hi0 hi1 dX12_ringsLong_137 (hc := ac_138) (hlen := ln_138 _ _) (K := ?_)
    refine ev_iadd (M := T12_ringsLong) (pc := 138) dX12_ringsLong_138 (k := ?_)
    obtain ⟨⟨hi0, hi1⟩, H7⟩ := g_e H6
    clear H6
    obtain ⟨h6, eh6, H8⟩ := lt_e H7
    clear H7
    refine ev_iastore (M := T12_ringsLong) (pc := 139) (k := 137) j_ok1 hi0 hi1 eh6 dX12_ringsLong_139 (hc := ac_137) (hlen := ln_137 _ _) (K := ?_)
    refine ev_aload_n (M := T12_ringsLong) (pc := 140) 0 dX12_ringsLong_140 (k := ?_)
    refine ev_getR (M := T12_ringsLong) (pc := 141) (t := 138) (x := some (138, 0)) fl_X12_110 dX12_ringsLong_141 (hx := ry_12_38 _ _) (K := ?_)
    refine ev_iload_n (M := T12_ringsLong) (pc := 144) 1 dX12_ringsLong_144 (k := ?_)
    refine ev_iconst (M := T12_ringsLong) (pc := 145) dX12_ringsLong_145 (k := ?_)
    obtain ⟨⟨hi0, hi1⟩, H9⟩ := g_e H8
    clear H8
    obtain ⟨h7, eh7, H10⟩ := lt_e H9
    clear H9
    refine ev_iastore (M := T12_ringsLong) (pc := 146) (k := 138) j_ok1 hi0 hi1 eh7 dX12_ringsLong_146 (hc := ac_138) (hlen := ln_138 _ _) (K := ?_)
    refine ev_aload_n (M := T12_ringsLong) (pc := 147) 0 dX12_ringsLong_147 (k := ?_)
    refine ev_iload_n (M := T12_ringsLong) (pc := 148) 1 dX12_ringsLong_148 (k := ?_)
    refine ev_iconst (M := T12_ringsLong) (pc := 149) dX12_ringsLong_149 (k := ?_)
    obtain ⟨h8, hq, H11⟩ := bd_e H10
    clear H10
    refine ev_callV (M := T12_ringsLong) (pc := 150) (mc := 0) (ms := 0) (st := []) (C12_becomes hq) md_X12_becomes im_X12_becomes se_X12_becomes ml_X12_361 dX12_ringsLong_150 _ (by decide) (K := ?_)
    refine ev_goto (M := T12_ringsLong) (pc := 153) 235 dX12_ringsLong_153 (k := ?_)
    cases H11
    exact ev_return (M := T12_ringsLong) (pc := 235) dX12_ringsLong_235
  · replace H := if_ne hc H
    refine ev_aload_n (M := T12_ringsLong) (pc := 68) 0 dX12_ringsLong_68 (k := ?_)
    refine ev_getR (M := T12_ringsLong) (pc := 69) (t := 152) (x := some (152, 0)) fl_X12_152 dX12_ringsLong_69 (hx := ry_12_52 _ _) (K := ?_)
    refine ev_bipush (M := T12_ringsLong) (pc := 72) dX12_ringsLong_72 (k := ?_)
    refine ev_iload (M := T12_ringsLong) (pc := 74) 2 dX12_ringsLong_74 (k := ?_)
    refine ev_imul (M := T12_ringsLong) (pc := 76) dX12_ringsLong_76 (k := ?_)
    refine ev_iload (M := T12_ringsLong) (pc := 77) 3 dX12_ringsLong_77 (k := ?_)
    refine ev_iadd (M := T12_ringsLong) (pc := 79) dX12_ringsLong_79 (k := ?_)
    refine ev_aload_n (M := T12_ringsLong) (pc := 80) 0 dX12_ringsLong_80 (k := ?_)
    refine ev_getR (M := T12_ringsLong) (pc := 81) (t := 152) (x := some (152, 0)) fl_X12_152 dX12_ringsLong_81 (hx := ry_12_52 _ _) (K := ?_)
    refine ev_bipush (M := T12_ringsLong) (pc := 84) dX12_ringsLong_84 (k := ?_)
    refine ev_iload (M := T12_ringsLong) (pc := 86) 2 dX12_ringsLong_86 (k := ?_)
    refine ev_imul (M := T12_ringsLong) (pc := 88) dX12_ringsLong_88 (k := ?_)
    refine ev_iload (M := T12_ringsLong) (pc := 89) 3 dX12_ringsLong_89 (k := ?_)
    refine ev_iadd (M := T12_ringsLong) (pc := 91) dX12_ringsLong_91 (k := ?_)
    refine ev_iconst (M := T12_ringsLong) (pc := 92) dX12_ringsLong_92 (k := ?_)
    refine ev_isub (M := T12_ringsLong) (pc := 93) dX12_ringsLong_93 (k := ?_)
    obtain ⟨⟨hi0, hi1⟩, H1⟩ := g_e H
    clear H
    refine ev_iaload (M := T12_ringsLong) (pc := 94) (k := 152) hi0 hi1 dX12_ringsLong_94 (hc := ac_152) (hlen := ln_152 _ _) (K := ?_)
    obtain ⟨⟨hi0, hi1⟩, H2⟩ := g_e H1
    clear H1
    obtain ⟨h9, eh9, H3⟩ := lt_e H2
    clear H2
    refine ev_iastore (M := T12_ringsLong) (pc := 95) (k := 152) j_ok1 hi0 hi1 eh9 dX12_ringsLong_95 (hc := ac_152) (hlen := ln_152 _ _) (K := ?_)
    refine ev_iinc (M := T12_ringsLong) (pc := 96) 3 [(5, .inl (w32 (l5 + (-1)))), (0, .inr (.inr (some (12, 0)))), (1, .inl (l1)), (4, .inl (l4))] dX12_ringsLong_96 (k := ?_)
    refine ev_goto (M := T12_ringsLong) (pc := 99) 63 dX12_ringsLong_99 (k := ?_)
    refine ev_lv [1, 2, 3, 0] [(0, .inr (.inr (some (12, 0)))), (1, .inl (l1)), (4, .inl (l4)), (5, .inl (w32 (l5 + (-1))))] (k := ?_)
    exact hk63 l1 l4 (w32 (l5 + (-1))) h9 _ H3
theorem E12_ringsLong_63 (n : Nat) : ∀ (l1 : Int) (l4 : Int) (l5 : Int) (h : JM) (res : JM), F12_ringsLong_63 n l1 l4 l5 h = some res → Ev j_W1 91 0 0 T12_ringsLong 63 [(0, .inr (.inr (some (12, 0)))), (1, .inl (l1)), (4, .inl (l4)), (5, .inl (l5))] [] h none res := by
  induction n with
  | zero =>
    intro l1 l4 l5 h res H
    cases H
  | succ n ih =>
    intro l1 l4 l5 h res H
    exact E12_ringsLong_63b (F12_ringsLong_63 n) ih l1 l4 l5 h res H
set_option maxRecDepth 100000 in
set_option maxHeartbeats 4000000 in
theorem C12_ringsLong {l1 : Int} {l2 : Int} {h : JM} {res : JM} (H : F12_ringsLong l1 l2 h = some res) : Cn j_W1 91 0 0 yX12_ringsLong cX12_ringsLong 6 none [.inr (.inr (some (12, 0))), .inl (l1), .inl (l2)] h none res := by
  refine Cn.by (own := RX12) (b := false) [(0, .inr (.inr (some (12, 0)))), (1, .inl (l1)), (2, .inl (l2))] rfl (fun z => by cases z) (by decide +kernel) (K := ?_)
  unfold F12_ringsLong at H
  refine ev_aload_n (M := T12_ringsLong) (pc := 0) 0 dX12_ringsLong_0 (k := ?_)
  refine ev_getR (M := T12_ringsLong) (pc := 1) (t := 137) (x := some (137, 0)) fl_X12_107 dX12_ringsLong_1 (hx := ry_12_37 _ _) (K := ?_)
  refine ev_iload_n (M := T12_ringsLong) (pc := 4) 1 dX12_ringsLong_4 (k := ?_)
  obtain ⟨⟨hi0, hi1⟩, H1⟩ := g_e H
  clear H
  refine ev_iaload (M := T12_ringsLong) (pc := 5) (k := 137) hi0 hi1 dX12_ringsLong_5 (hc := ac_137) (hlen := ln_137 _ _) (K := ?_)
  obtain ⟨x10, ex10, H2⟩ := lt_e H1
  clear H1
  refine ev_topI ex10 ?_
  refine ev_istore_n (M := T12_ringsLong) (pc := 6) [(3, .inl (x10)), (0, .inr (.inr (some (12, 0)))), (1, .inl (l1)), (2, .inl (l2))] dX12_ringsLong_6 (k := ?_)
  refine ev_aload_n (M := T12_ringsLong) (pc := 7) 1 dX12_ringsLong_7 (k := ?_)
  refine ev_getR (M := T12_ringsLong) (pc := 8) (t := 138) (x := some (138, 0)) fl_X12_110 dX12_ringsLong_8 (hx := ry_12_38 _ _) (K := ?_)
  refine ev_iload_n (M := T12_ringsLong) (pc := 11) 2 dX12_ringsLong_11 (k := ?_)
  obtain ⟨⟨hi0, hi1⟩, H3⟩ := g_e H2
  clear H2
  refine ev_iaload (M := T12_ringsLong) (pc := 12) (k := 138) hi0 hi1 dX12_ringsLong_12 (hc := ac_138) (hlen := ln_138 _ _) (K := ?_)
  refine ev_iconst (M := T12_ringsLong) (pc := 13) dX12_ringsLong_13 (k := ?_)
  refine ev_icmpeq (M := T12_ringsLong) (pc := 14) 156 dX12_ringsLong_14 (kt := fun hc => ?_) (kf := fun hc => ?_)
  · replace H3 := if_pe hc H3
    refine ev_iload_n (M := T12_ringsLong) (pc := 156) 3 dX12_ringsLong_156 (k := ?_)
    refine ev_sipush (M := T12_ringsLong) (pc := 157) dX12_ringsLong_157 (k := ?_)
    refine ev_icmpne (M := T12_ringsLong) (pc := 160) 221 dX12_ringsLong_160 (kt := fun hc => ?_) (kf := fun hc => ?_)
    · replace H3 := if_ne hc H3
      refine ev_lv [1, 2, 3] [(0, .inr (.inr (some (12, 0)))), (1, .inl (l1)), (2, .inl (l2))] (k := ?_)
      exact E12_ringsLong_221 l1 l2 h _ H3
    · replace H3 := if_pe hc H3
      refine ev_aload_n (M := T12_ringsLong) (pc := 163) 1 dX12_ringsLong_163 (k := ?_)
      refine ev_getR (M := T12_ringsLong) (pc := 164) (t := 129) (x := some (129, 0)) fl_X12_86 dX12_ringsLong_164 (hx := ry_12_29 _ _) (K := ?_)
      refine ev_iconst (M := T12_ringsLong) (pc := 167) dX12_ringsLong_167 (k := ?_)
      refine ev_iload_n (M := T12_ringsLong) (pc := 168) 0 dX12_ringsLong_168 (k := ?_)
      refine ev_imul (M := T12_ringsLong) (pc := 169) dX12_ringsLong_169 (k := ?_)
      refine ev_iconst (M := T12_ringsLong) (pc := 170) dX12_ringsLong_170 (k := ?_)
      refine ev_iadd (M := T12_ringsLong) (pc := 171) dX12_ringsLong_171 (k := ?_)
      obtain ⟨⟨hi0, hi1⟩, H4⟩ := g_e H3
      clear H3
      refine ev_iaload (M := T12_ringsLong) (pc := 172) (k := 129) hi0 hi1 dX12_ringsLong_172 (hc := ac_129) (hlen := ln_129 _ _) (K := ?_)
      refine ev_ifle (M := T12_ringsLong) (pc := 173) 221 dX12_ringsLong_173 (kt := fun hc => ?_) (kf := fun hc => ?_)
      · replace H4 := if_pe hc H4
        refine ev_lv [1, 2, 3] [(0, .inr (.inr (some (12, 0)))), (1, .inl (l1)), (2, .inl (l2))] (k := ?_)
        exact E12_ringsLong_221 l1 l2 h _ H4
      · replace H4 := if_ne hc H4
        refine ev_aload_n (M := T12_ringsLong) (pc := 176) 1 dX12_ringsLong_176 (k := ?_)
        refine ev_getR (M := T12_ringsLong) (pc := 177) (t := 121) (x := some (121, 0)) fl_X12_62 dX12_ringsLong_177 (hx := ry_12_21 _ _) (K := ?_)
        refine ev_iload_n (M := T12_ringsLong) (pc := 180) 0 dX12_ringsLong_180 (k := ?_)
        obtain ⟨⟨hi0, hi1⟩, H5⟩ := g_e H4
        clear H4
        refine ev_iaload (M := T12_ringsLong) (pc := 181) (k := 121) hi0 hi1 dX12_ringsLong_181 (hc := ac_121) (hlen := ln_121 _ _) (K := ?_)
        refine ev_iload_n (M := T12_ringsLong) (pc := 182) 2 dX12_ringsLong_182 (k := ?_)
        refine ev_icmpne (M := T12_ringsLong) (pc := 183) 191 dX12_ringsLong_183 (kt := fun hc => ?_) (kf := fun hc => ?_)
        · replace H5 := if_ne hc H5
          refine ev_lv [1, 2, 0] [(0, .inr (.inr (some (12, 0)))), (1, .inl (l1)), (3, .inl (x10))] (k := ?_)
          exact E12_ringsLong_191 l1 x10 h _ H5
        · replace H5 := if_pe hc H5
          refine ev_aload_n (M := T12_ringsLong) (pc := 186) 1 dX12_ringsLong_186 (k := ?_)
          refine ev_iload_n (M := T12_ringsLong) (pc := 187) 0 dX12_ringsLong_187 (k := ?_)
          obtain ⟨h11, hq, H6⟩ := bd_e H5
          clear H5
          refine ev_callV (M := T12_ringsLong) (pc := 188) (mc := 0) (ms := 0) (st := []) (C12_unring hq) md_X12_unring im_X12_unring se_X12_unring ml_X12_396 dX12_ringsLong_188 _ (by decide) (K := ?_)
          refine ev_lv [1, 2, 0] [(0, .inr (.inr (some (12, 0)))), (1, .inl (l1)), (3, .inl (x10))] (k := ?_)
          exact E12_ringsLong_191 l1 x10 h11 _ H6
  · replace H3 := if_ne hc H3
    refine ev_iload_n (M := T12_ringsLong) (pc := 17) 3 dX12_ringsLong_17 (k := ?_)
    refine ev_sipush (M := T12_ringsLong) (pc := 18) dX12_ringsLong_18 (k := ?_)
    refine ev_icmpeq (M := T12_ringsLong) (pc := 21) 25 dX12_ringsLong_21 (kt := fun hc => ?_) (kf := fun hc => ?_)
    · replace H3 := if_pe hc H3
      refine ev_aload_n (M := T12_ringsLong) (pc := 25) 1 dX12_ringsLong_25 (k := ?_)
      refine ev_iload_n (M := T12_ringsLong) (pc := 26) 0 dX12_ringsLong_26 (k := ?_)
      obtain ⟨h12, hq, H4⟩ := bd_e H3
      clear H3
      refine ev_callV (M := T12_ringsLong) (pc := 27) (mc := 0) (ms := 0) (st := []) (C12_unring hq) md_X12_unring im_X12_unring se_X12_unring ml_X12_396 dX12_ringsLong_27 _ (by decide) (K := ?_)
      refine ev_aload_n (M := T12_ringsLong) (pc := 30) 1 dX12_ringsLong_30 (k := ?_)
      refine ev_getR (M := T12_ringsLong) (pc := 31) (t := 124) (x := some (124, 0)) fl_X12_71 dX12_ringsLong_31 (hx := ry_12_24 _ _) (K := ?_)
      refine ev_iload_n (M := T12_ringsLong) (pc := 34) 0 dX12_ringsLong_34 (k := ?_)
      refine ev_iconst (M := T12_ringsLong) (pc := 35) dX12_ringsLong_35 (k := ?_)
      obtain ⟨⟨hi0, hi1⟩, H5⟩ := g_e H4
      clear H4
      obtain ⟨h13, eh13, H6⟩ := lt_e H5
      clear H5
      refine ev_zastore (M := T12_ringsLong) (pc := 36) (k := 124) j_ok1 hi0 hi1 (Or.inr rfl) eh13 dX12_ringsLong_36 (hc := ac_124) (hlen := ln_124 _ _) (K := ?_)
      refine ev_iconst (M := T12_ringsLong) (pc := 37) dX12_ringsLong_37 (k := ?_)
      refine ev_aload_n (M := T12_ringsLong) (pc := 38) 1 dX12_ringsLong_38 (k := ?_)
      refine ev_getR (M := T12_ringsLong) (pc := 39) (t := 135) (x := some (135, 0)) fl_X12_101 dX12_ringsLong_39 (hx := ry_12_35 _ _) (K := ?_)
      refine ev_iload_n (M := T12_ringsLong) (pc := 42) 2 dX12_ringsLong_42 (k := ?_)
      obtain ⟨⟨hi0, hi1⟩, H7⟩ := g_e H6
      clear H6
      refine ev_iaload (M := T12_ringsLong) (pc := 43) (k := 135) hi0 hi1 dX12_ringsLong_43 (hc := ac_135) (hlen := ln_135 _ _) (K := ?_)
      refine ev_imul (M := T12_ringsLong) (pc := 44) dX12_ringsLong_44 (k := ?_)
      refine ev_aload_n (M := T12_ringsLong) (pc := 45) 1 dX12_ringsLong_45 (k := ?_)
      refine ev_getR (M := T12_ringsLong) (pc := 46) (t := 138) (x := some (138, 0)) fl_X12_110 dX12_ringsLong_46 (hx := ry_12_38 _ _) (K := ?_)
      refine ev_iload_n (M := T12_ringsLong) (pc := 49) 2 dX12_ringsLong_49 (k := ?_)
      obtain ⟨⟨hi0, hi1⟩, H8⟩ := g_e H7
      clear H7
      refine ev_iaload (M := T12_ringsLong) (pc := 50) (k := 138) hi0 hi1 dX12_ringsLong_50 (hc := ac_138) (hlen := ln_138 _ _) (K := ?_)
      refine ev_iadd (M := T12_ringsLong) (pc := 51) dX12_ringsLong_51 (k := ?_)
      obtain ⟨x14, ex14, H9⟩ := lt_e H8
      clear H8
      refine ev_topI ex14 ?_
      refine ev_istore (M := T12_ringsLong) (pc := 52) [(4, .inl (x14)), (3, .inl (x10)), (0, .inr (.inr (some (12, 0)))), (1, .inl (l1)), (2, .inl (l2))] dX12_ringsLong_52 (k := ?_)
      refine ev_aload_n (M := T12_ringsLong) (pc := 54) 2 dX12_ringsLong_54 (k := ?_)
      refine ev_getR (M := T12_ringsLong) (pc := 55) (t := 153) (x := some (153, 0)) fl_X12_155 dX12_ringsLong_55 (hx := ry_12_53 _ _) (K := ?_)
      refine ev_iload (M := T12_ringsLong) (pc := 58) 0 dX12_ringsLong_58 (k := ?_)
      obtain ⟨⟨hi0, hi1⟩, H10⟩ := g_e H9
      clear H9
      refine ev_iaload (M := T12_ringsLong) (pc := 60) (k := 153) hi0 hi1 dX12_ringsLong_60 (hc := ac_153) (hlen := ln_153 _ _) (K := ?_)
      obtain ⟨x15, ex15, H11⟩ := lt_e H10
      clear H10
      refine ev_topI ex15 ?_
      refine ev_istore (M := T12_ringsLong) (pc := 61) [(5, .inl (x15)), (4, .inl (x14)), (3, .inl (x10)), (0, .inr (.inr (some (12, 0)))), (1, .inl (l1)), (2, .inl (l2))] dX12_ringsLong_61 (k := ?_)
      refine ev_lv [3, 4, 1, 0] [(0, .inr (.inr (some (12, 0)))), (1, .inl (l1)), (4, .inl (x14)), (5, .inl (x15))] (k := ?_)
      exact E12_ringsLong_63 j_fu l1 x14 x15 h13 _ H11
    · replace H3 := if_ne hc H3
      cases H3
      exact ev_return (M := T12_ringsLong) (pc := 24) dX12_ringsLong_24
-- X12_room
abbrev T12_room : JT := (RX12, cX12_room, 3, some .int, false)
set_option maxRecDepth 100000 in
set_option maxHeartbeats 4000000 in
theorem E12_room_29 (h : JM) (res : (Int × JM)) (H : F12_room_29 h = some res) : Ev j_W1 2 0 0 T12_room 29 [] [] h (some (.inl res.1)) res.2 := by
  unfold F12_room_29 at H
  refine ev_bipush (M := T12_room) (pc := 29) dX12_room_29 (k := ?_)
  cases H
  exact ev_ireturn (M := T12_room) (pc := 31) dX12_room_31
set_option maxRecDepth 100000 in
set_option maxHeartbeats 4000000 in
theorem C12_room {l1 : Int} {l2 : Int} {h : JM} {res : (Int × JM)} (H : F12_room l1 l2 h = some res) : Cn j_W1 2 0 0 yX12_room cX12_room 3 (some .int) [.inr (.inr (some (12, 0))), .inl (l1), .inl (l2)] h (some (.inl res.1)) res.2 := by
  refine Cn.by (own := RX12) (b := false) [(0, .inr (.inr (some (12, 0)))), (1, .inl (l1)), (2, .inl (l2))] rfl (fun z => by cases z) (by decide +kernel) (K := ?_)
  unfold F12_room at H
  refine ev_iload_n (M := T12_room) (pc := 0) 1 dX12_room_0 (k := ?_)
  refine ev_i2l (M := T12_room) (pc := 1) dX12_room_1 (k := ?_)
  refine ev_lconst (M := T12_room) (pc := 2) (v := 0) dX12_room_2 (k := ?_)
  refine ev_lconst (M := T12_room) (pc := 3) (v := 1) dX12_room_3 (k := ?_)
  obtain ⟨q1, hq, H1⟩ := bd_e H
  clear H
  refine ev_callS (M := T12_room) (pc := 4) (mc := 0) (ms := 0) (st := []) (C12_in hq) md_X12_in ss_X12_in ml_X12_268 dX12_room_4 _ (by decide) (K := ?_)
  refine ev_ifeq (M := T12_room) (pc := 7) 29 dX12_room_7 (kt := fun hc => ?_) (kf := fun hc => ?_)
  · replace H1 := if_pe hc H1
    refine ev_lv [] [] (k := ?_)
    exact E12_room_29 q1.2 _ H1
  · replace H1 := if_ne hc H1
    refine ev_iload_n (M := T12_room) (pc := 10) 2 dX12_room_10 (k := ?_)
    refine ev_i2l (M := T12_room) (pc := 11) dX12_room_11 (k := ?_)
    refine ev_lconst (M := T12_room) (pc := 12) (v := 0) dX12_room_12 (k := ?_)
    refine ev_lconst (M := T12_room) (pc := 13) (v := 1) dX12_room_13 (k := ?_)
    obtain ⟨q2, hq, H2⟩ := bd_e H1
    clear H1
    refine ev_callS (M := T12_room) (pc := 14) (mc := 0) (ms := 0) (st := []) (C12_in hq) md_X12_in ss_X12_in ml_X12_268 dX12_room_14 _ (by decide) (K := ?_)
    refine ev_ifeq (M := T12_room) (pc := 17) 29 dX12_room_17 (kt := fun hc => ?_) (kf := fun hc => ?_)
    · replace H2 := if_pe hc H2
      refine ev_lv [] [] (k := ?_)
      exact E12_room_29 q2.2 _ H2
    · replace H2 := if_ne hc H2
      refine ev_aload_n (M := T12_room) (pc := 20) 0 dX12_room_20 (k := ?_)
      refine ev_iload_n (M := T12_room) (pc := 21) 1 dX12_room_21 (k := ?_)
      refine ev_iload_n (M := T12_room) (pc := 22) 2 dX12_room_22 (k := ?_)
      obtain ⟨q3, hq, H3⟩ := bd_e H2
      clear H2
      refine ev_callV (M := T12_room) (pc := 23) (mc := 0) (ms := 0) (st := []) (C12_inRoom hq) md_X12_inRoom im_X12_inRoom se_X12_inRoom ml_X12_376 dX12_room_23 _ (by decide) (K := ?_)
      refine ev_goto (M := T12_room) (pc := 26) 31 dX12_room_26 (k := ?_)
      cases H3
      exact ev_ireturn (M := T12_room) (pc := 31) dX12_room_31
-- X12_say
abbrev T12_say : JT := (RX12, cX12_say, 4, some .int, false)
set_option maxRecDepth 100000 in
set_option maxHeartbeats 4000000 in
theorem E12_say_21 (h : JM) (res : (Int × JM)) (H : F12_say_21 h = some res) : Ev j_W1 3 0 0 T12_say 21 [] [] h (some (.inl res.1)) res.2 := by
  unfold F12_say_21 at H
  refine ev_bipush (M := T12_say) (pc := 21) dX12_say_21 (k := ?_)
  cases H
  exact ev_ireturn (M := T12_say) (pc := 23) dX12_say_23
set_option maxRecDepth 100000 in
set_option maxHeartbeats 4000000 in
theorem C12_say {l1 : Int} {l2 : Int} {h : JM} {res : (Int × JM)} (H : F12_say l1 l2 h = some res) : Cn j_W1 3 0 0 yX12_say cX12_say 4 (some .int) [.inr (.inr (some (12, 0))), .inl (l1), .inl (l2)] h (some (.inl res.1)) res.2 := by
  refine Cn.by (own := RX12) (b := false) [(0, .inr (.inr (some (12, 0)))), (1, .inl (l1)), (2, .inl (l2))] rfl (fun z => by cases z) (by decide +kernel) (K := ?_)
  unfold F12_say at H
  refine ev_iload_n (M := T12_say) (pc := 0) 1 dX12_say_0 (k := ?_)
  obtain ⟨q1, hq, H1⟩ := bd_e H
  clear H
  refine ev_callS (M := T12_say) (pc := 1) (mc := 0) (ms := 0) (st := []) (C12_isLine hq) md_X12_isLine ss_X12_isLine ml_X12_288 dX12_say_1 _ (by decide) (K := ?_)
  refine ev_ifeq (M := T12_say) (pc := 4) 21 dX12_say_4 (kt := fun hc => ?_) (kf := fun hc => ?_)
  · replace H1 := if_pe hc H1
    refine ev_lv [] [] (k := ?_)
    exact E12_say_21 q1.2 _ H1
  · replace H1 := if_ne hc H1
    refine ev_iload_n (M := T12_say) (pc := 7) 2 dX12_say_7 (k := ?_)
    refine ev_i2l (M := T12_say) (pc := 8) dX12_say_8 (k := ?_)
    refine ev_ldc2 (M := T12_say) (pc := 9) (n := (-8000)) cl_X12_296 dX12_say_9 (hv := cw_X12_296) (k := ?_)
    refine ev_ldc2 (M := T12_say) (pc := 12) (n := 8000) cl_X12_298 dX12_say_12 (hv := cw_X12_298) (k := ?_)
    obtain ⟨q2, hq, H2⟩ := bd_e H1
    clear H1
    refine ev_callS (M := T12_say) (pc := 15) (mc := 0) (ms := 0) (st := []) (C12_in hq) md_X12_in ss_X12_in ml_X12_268 dX12_say_15 _ (by decide) (K := ?_)
    refine ev_ifne (M := T12_say) (pc := 18) 24 dX12_say_18 (kt := fun hc => ?_) (kf := fun hc => ?_)
    · replace H2 := if_ne hc H2
      refine ev_aload_n (M := T12_say) (pc := 24) 0 dX12_say_24 (k := ?_)
      refine ev_getR (M := T12_say) (pc := 25) (t := 130) (x := some (130, 0)) fl_X12_89 dX12_say_25 (hx := ry_12_30 _ _) (K := ?_)
      refine ev_iload_n (M := T12_say) (pc := 28) 1 dX12_say_28 (k := ?_)
      obtain ⟨⟨hi0, hi1⟩, H3⟩ := g_e H2
      clear H2
      refine ev_iaload (M := T12_say) (pc := 29) (k := 130) hi0 hi1 dX12_say_29 (hc := ac_130) (hlen := ln_130 _ _) (K := ?_)
      obtain ⟨x3, ex3, H4⟩ := lt_e H3
      clear H3
      refine ev_topI ex3 ?_
      refine ev_istore_n (M := T12_say) (pc := 30) [(3, .inl (x3)), (0, .inr (.inr (some (12, 0)))), (1, .inl (l1)), (2, .inl (l2))] dX12_say_30 (k := ?_)
      refine ev_aload_n (M := T12_say) (pc := 31) 1 dX12_say_31 (k := ?_)
      refine ev_getR (M := T12_say) (pc := 32) (t := 130) (x := some (130, 0)) fl_X12_89 dX12_say_32 (hx := ry_12_30 _ _) (K := ?_)
      refine ev_iload_n (M := T12_say) (pc := 35) 2 dX12_say_35 (k := ?_)
      refine ev_iload_n (M := T12_say) (pc := 36) 3 dX12_say_36 (k := ?_)
      obtain ⟨⟨hi0, hi1⟩, H5⟩ := g_e H4
      clear H4
      obtain ⟨h4, eh4, H6⟩ := lt_e H5
      clear H5
      refine ev_iastore (M := T12_say) (pc := 37) (k := 130) j_ok1 hi0 hi1 eh4 dX12_say_37 (hc := ac_130) (hlen := ln_130 _ _) (K := ?_)
      refine ev_iload_n (M := T12_say) (pc := 38) 0 dX12_say_38 (k := ?_)
      cases H6
      exact ev_ireturn (M := T12_say) (pc := 39) dX12_say_39
    · replace H2 := if_pe hc H2
      refine ev_lv [] [] (k := ?_)
      exact E12_say_21 q2.2 _ H2
